/** OATHS: as many as need asks of or one fewer, each reason that keeps a helper off, and CASES that can't have one. */
public final class OathBoundsTest {
    private static final long HAND = Twins.HAND;

    public static void main(String[] args) {
        asManyAsNeedAsksOf();
        rankOfNeedOrMore();
        noneOfBoth();
        noneOfDegreeOne();
        noneDead();
        noneWhoIsNobody();
        everyBitIsAPerson();
        clearedOnce();
        noneStaysNone();
        judgedOrWithoutALaw();
        Due.finish();
    }

    /** 0 did it to 1 on day 0; 2 .. 19 are strangers to both, but for what "more" makes of them. */
    private static BloodPrice moot(String text) {
        BloodPrice moot = new BloodPrice();
        for (int i = 0; i < 20; i++) {
            moot.person(i % 4, -1, -1);
        }
        Due.is("law", Due.tell(moot, 1, 0, "hurt hand 60;" + text), 1);
        moot.hurt(0, 1, HAND, 0, 0, false);
        return moot;
    }

    /** Bits of so many PEOPLE from 2 on. */
    private static int helpers(int count) {
        return (1 << count) - 1 << 2;
    }

    private static void asManyAsNeedAsksOf() {
        for (int need : new int[] {0, 1, 2, 11, 12}) {
            String text = "need " + need + " rank 0;";
            if (need > 0) {
                Due.is("one fewer than " + need, moot(text).oath(0, helpers(need - 1)), 0);
                Due.is("none of " + need, moot(text).oath(0, 0), 0);
            }
            Due.is("just " + need, moot(text).oath(0, helpers(need)), 1);
            Due.is("one more than " + need, moot(text).oath(0, helpers(need + 1)), 1);
            Due.is("all 18", moot(text).oath(0, helpers(18)), 1);
        }
    }

    private static void rankOfNeedOrMore() {
        for (int need = 0; need <= 3; need++) {
            for (int rank = 0; rank <= 3; rank++) {
                BloodPrice moot = moot("need 1 rank " + need + ";");
                moot.rank(2, rank, 0);
                moot.rank(3, 3, 0);
                Due.is("rank " + rank + " of " + need, moot.oath(0, 1 << 2), rank >= need ? 1 : 0);
                Due.is("again", moot.oath(0, 1 << 2 | 1 << 3), rank >= need ? -1 : 0);
            }
        }
        Due.is("need 0 asks for a rank of who comes", moot("need 0 rank 1;").oath(0, 1 << 2), 0);
        Due.is("need 0 and nobody comes", moot("need 0 rank 3;").oath(0, 0), 1);
    }

    private static void noneOfBoth() {
        for (int one = 0; one < 4; one++) {
            int due = one < 2 ? 0 : 1;
            Due.is("with " + one, moot("need 1 rank 0;").oath(0, helpers(4) | 1 << one), due);
            Due.is(one + " alone", moot("").oath(0, 1 << one), due);
        }
    }

    private static void noneOfDegreeOne() {
        BloodPrice moot = new BloodPrice();
        moot.person(0, -1, -1);
        moot.person(0, -1, -1);
        moot.person(0, 0, 1);
        moot.person(0, 2, -1);
        moot.person(0, -1, 3);
        moot.person(0, 0, 1);
        moot.person(1, -1, -1);
        moot.person(1, 6, -1);
        Due.is("law", Due.tell(moot, 1, 0, "hurt hand 60;"), 1);
        int[] due = {0, 0, 0, 0, 1, 1, 0, 1};
        for (int helper = 0; helper < due.length; helper++) {
            Due.is("hurt", moot.hurt(2, 6, HAND, 0, 0, false), helper);
            Due.is("with " + helper, moot.oath(helper, 1 << helper), due[helper]);
        }
    }

    private static void noneDead() {
        BloodPrice moot = moot("need 1 rank 0;");
        moot.dead(2, 0);
        moot.dead(3, 1);
        Due.is("dead from today on", moot.oath(0, 1 << 2), 0);
        Due.is("with another", moot.oath(0, 1 << 2 | 1 << 4), 0);
        Due.is("dead from tomorrow on", moot.oath(0, 1 << 3), 1);
        moot.hurt(0, 1, HAND, 0, 0, false);
        moot.later(1);
        Due.is("dead today", moot.oath(1, 1 << 3), 0);
        Due.is("alive", moot.oath(1, 1 << 4), 1);
    }

    private static void noneWhoIsNobody() {
        BloodPrice moot = moot("need 1 rank 0;");
        for (int bit = 20; bit < 32; bit++) {
            Due.is("bit " + bit, moot.oath(0, 1 << bit), 0);
            Due.is("with bit " + bit, moot.oath(0, 1 << bit | 1 << 19), 0);
        }
        Due.is("not cleared", moot.of(0, 4), -1);
        Due.is("bit 19", moot.oath(0, 1 << 19), 1);
    }

    private static void everyBitIsAPerson() {
        BloodPrice moot = moot("need 1 rank 1;");
        for (int helper = 2; helper < 20; helper++) {
            Due.is("hurt", moot.hurt(0, 1, HAND, 0, 0, false), helper - 1);
            Due.is("rank", moot.rank(helper, 1, 0), helper - 1);
            Due.is("with " + helper, moot.oath(helper - 1, 1 << helper), 1);
        }
        moot = moot("");
        moot.hurt(3, 1, HAND, 0, 0, false);
        moot.hurt(3, 5, HAND, 0, 0, false);
        Due.is("with 0", moot.oath(1, 1), 1);
        Due.is("with 0 and 1", moot.oath(2, 3), 1);
    }

    private static void clearedOnce() {
        BloodPrice moot = moot("");
        moot.later(7);
        Due.is("oath", moot.oath(0, 0), 1);
        moot.later(1);
        Due.is("again", moot.oath(0, 0), -1);
        Due.is("of(0, 4)", moot.of(0, 4), 7);
        Due.is("sum as known on 6", moot.sum(0, 6), 60);
        Due.is("sum as known on 7", moot.sum(0, 7), 0);
        Due.is("judge", moot.judge(0), 0);
        Due.is("of(0, 5)", moot.of(0, 5), 8);
        Due.is("oath when judged", moot.oath(0, 0), -1);
        moot.rate(0, 1);
        Due.is("pay", moot.pay(0, 0, 3), 3);
        Due.is("owed", moot.owed(0, 8), -3);
    }

    private static void noneStaysNone() {
        BloodPrice moot = moot("");
        moot.hurt(0, 1, Due.name("foot"), 0, 0, false);
        Due.is("sum", moot.sum(1, 0), -1);
        Due.is("oath", moot.oath(1, 0), 1);
        Due.is("of(1, 4)", moot.of(1, 4), 0);
        Due.is("sum", moot.sum(1, 0), -1);
        Due.is("pays", moot.pays(1, 0, 0), -1);
        Due.is("has", moot.has(1, 1, 0), -1);
        Due.is("judge", moot.judge(1), -1);
        Due.is("oath again", moot.oath(1, 0), -1);
    }

    private static void judgedOrWithoutALaw() {
        BloodPrice moot = moot("");
        moot.hurt(1, 0, HAND, 0, 0, false);
        Due.is("without a law", moot.oath(1, 0), -1);
        Due.is("of(1, 4)", moot.of(1, 4), -1);
        moot.judge(0);
        Due.is("judged", moot.oath(0, 0), -1);
        Due.is("of(0, 4)", moot.of(0, 4), -1);
        Due.is("sum", moot.sum(0, 0), 60);
    }
}
