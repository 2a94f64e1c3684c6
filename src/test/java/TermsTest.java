/** Promises 20 to 23: judging, RATES, PAYMENTS and what is OWED. */
public final class TermsTest {
    private static final int UNASKED = -2000000001;
    private static final long HAND = Due.name("hand");

    public static void main(String[] args) {
        judging();
        judgementsStay();
        rates();
        payments();
        worthStays();
        owedCannotBeAsked();
        oneTerm();
        missedTerms();
        paidAhead();
        overAndBehind();
        eachCaseItsOwn();
        sixTermsMissed();
        Due.finish();
    }

    /** On day 10, a CASE 0 that was judged, with one beast of KIND 0 worth 1. */
    private static BloodPrice judged(String text) {
        BloodPrice moot = new BloodPrice();
        moot.person(0, -1, -1);
        moot.person(0, -1, -1);
        Due.is("law", Due.tell(moot, 0, 0, text), 1);
        moot.later(10);
        moot.hurt(0, 1, HAND, 0, 0, false);
        moot.rate(0, 1);
        moot.judge(0);
        return moot;
    }

    private static void owes(BloodPrice moot, int day, int due) {
        Due.is("owed(0, " + day + ")", moot.owed(0, day), due);
    }

    private static void judging() {
        BloodPrice moot = new BloodPrice();
        moot.person(0, -1, -1);
        moot.person(0, -1, -1);
        moot.hurt(0, 1, HAND, 0, 0, false);
        Due.is("judge without a law", moot.judge(0), -1);
        Due.is("of(0, 5)", moot.of(0, 5), -1);
        Due.tell(moot, 0, 0, "hurt hand 60; when rank = 1 do double;");
        Due.is("judge(-1)", moot.judge(-1), -1);
        Due.is("judge(1)", moot.judge(1), -1);
        moot.later(7);
        moot.rank(1, 1, 0);
        Due.is("judge", moot.judge(0), 120);
        Due.is("of(0, 5)", moot.of(0, 5), 7);
        moot.later(1);
        Due.is("judge again", moot.judge(0), -1);
        Due.is("of(0, 5)", moot.of(0, 5), 7);
    }

    private static void judgementsStay() {
        BloodPrice moot = judged("hurt hand 60; terms 2 days 5; when rank = 1 do double;");
        moot.rank(1, 1, 0);
        Due.is("sum", moot.sum(0, 10), 120);
        owes(moot, 10, 60);
        Due.tell(moot, 0, 0, "hurt hand 1000; terms 1 days 1;");
        Due.is("sum", moot.sum(0, 10), 1000);
        moot.later(2);
        owes(moot, 12, 60);
        moot.later(4);
        owes(moot, 16, 90);
    }

    private static void rates() {
        BloodPrice moot = new BloodPrice();
        Due.is("rate(-1, 1)", moot.rate(-1, 1), false);
        Due.is("rate(4, 1)", moot.rate(4, 1), false);
        Due.is("rate(0, -1)", moot.rate(0, -1), false);
        Due.is("rate(0, 1001)", moot.rate(0, 1001), false);
        Due.is("about(6)", moot.about(6), 0);
        for (int i = 0; i < 100; i++) {
            Due.is("rate", moot.rate(i % 4, i % 2 == 0 ? 0 : 1000), true);
        }
        Due.is("101st rate", moot.rate(0, 5), false);
        Due.is("about(6)", moot.about(6), 100);
    }

    private static void payments() {
        BloodPrice moot = judged("hurt hand 60;");
        moot.hurt(0, 1, HAND, 0, 0, false);
        moot.rate(3, 1000);
        Due.is("pay of no case", moot.pay(2, 0, 1), -1);
        Due.is("pay of case -1", moot.pay(-1, 0, 1), -1);
        Due.is("pay of one not judged", moot.pay(1, 0, 1), -1);
        Due.is("pay kind -1", moot.pay(0, -1, 1), -1);
        Due.is("pay kind 4", moot.pay(0, 4, 1), -1);
        Due.is("pay 0 beasts", moot.pay(0, 0, 0), -1);
        Due.is("pay 1001 beasts", moot.pay(0, 0, 1001), -1);
        Due.is("about(5)", moot.about(5), 0);
        Due.is("pay at no rate", moot.pay(0, 2, 1000), 0);
        Due.is("about(5)", moot.about(5), 1);
        for (int i = 2; i <= 60; i++) {
            Due.is("pay", moot.pay(0, 3, 1000), 1000000);
        }
        Due.is("61st payment", moot.pay(0, 3, 1), -1);
        Due.is("about(5)", moot.about(5), 60);
        owes(moot, 10, 60 - 59000000);
    }

    private static void worthStays() {
        BloodPrice moot = judged("hurt hand 100; terms 1 days 400;");
        Due.is("pay", moot.pay(0, 0, 10), 10);
        moot.rate(0, 3);
        Due.is("pay", moot.pay(0, 0, 10), 30);
        owes(moot, 10, 60);
        moot.later(5);
        Due.is("pay", moot.pay(0, 0, 10), 30);
        moot.rate(0, 0);
        Due.is("pay", moot.pay(0, 0, 10), 0);
        owes(moot, 15, 30);
        owes(moot, 10, 60);
    }

    private static void owedCannotBeAsked() {
        BloodPrice moot = judged("hurt hand 60; terms 1 days 400;");
        moot.hurt(0, 1, HAND, 0, 0, false);
        moot.later(5);
        Due.is("owed of no case", moot.owed(2, 10), UNASKED);
        Due.is("owed of -1", moot.owed(-1, 10), UNASKED);
        Due.is("owed of one not judged", moot.owed(1, 10), UNASKED);
        owes(moot, 9, UNASKED);
        owes(moot, 10, 60);
        owes(moot, 15, 60);
        owes(moot, 16, UNASKED);
        owes(moot, Integer.MAX_VALUE, UNASKED);
        owes(moot, Integer.MIN_VALUE, UNASKED);
    }

    private static void oneTerm() {
        BloodPrice moot = judged("hurt hand 60;");
        moot.later(1);
        owes(moot, 11, 60);
        moot.pay(0, 0, 20);
        owes(moot, 11, 40);
        owes(moot, 10, 60);
        moot.later(1);
        owes(moot, 12, 80);
        moot.pay(0, 0, 30);
        owes(moot, 12, 50);
        moot.later(500);
        owes(moot, 512, 50);
        moot.pay(0, 0, 51);
        owes(moot, 512, -1);
        owes(moot, 511, 50);
        owes(moot, 11, 40);
    }

    private static void missedTerms() {
        BloodPrice moot = judged("hurt hand 101; terms 3 days 10;");
        moot.later(50);
        owes(moot, 10, 101);
        owes(moot, 20, 101);
        owes(moot, 21, 35 * 2 + 66);
        owes(moot, 30, 35 * 2 + 66);
        owes(moot, 31, (35 * 2 + 33) * 2 + 33);
        owes(moot, 40, (35 * 2 + 33) * 2 + 33);
        owes(moot, 41, ((35 * 2 + 33) * 2 + 33) * 2);
        owes(moot, 60, ((35 * 2 + 33) * 2 + 33) * 2);
    }

    private static void paidAhead() {
        BloodPrice moot = judged("hurt hand 101; terms 3 days 10;");
        moot.pay(0, 0, 70);
        moot.later(15);
        owes(moot, 10, 31);
        owes(moot, 21, 31);
        owes(moot, 25, 31);
        moot.later(6);
        owes(moot, 31, 31);
        moot.later(10);
        owes(moot, 40, 31);
        owes(moot, 41, 62);
        moot.pay(0, 0, 62);
        owes(moot, 41, 0);
    }

    private static void overAndBehind() {
        BloodPrice moot = judged("hurt hand 100; terms 2 days 5;");
        moot.pay(0, 0, 130);
        owes(moot, 10, -30);
        moot.later(50);
        owes(moot, 16, -30);
        owes(moot, 21, -30);
        owes(moot, 60, -30);
        moot.pay(0, 0, 5);
        owes(moot, 60, -35);
    }

    private static void eachCaseItsOwn() {
        BloodPrice moot = judged("hurt hand 100; terms 2 days 5;");
        moot.hurt(1, 0, HAND, 0, 0, false);
        moot.judge(1);
        moot.pay(1, 0, 40);
        owes(moot, 10, 100);
        Due.is("owed(1, 10)", moot.owed(1, 10), 60);
        moot.later(6);
        owes(moot, 16, 150);
        Due.is("owed(1, 16)", moot.owed(1, 16), 70);
    }

    private static void sixTermsMissed() {
        BloodPrice moot = judged("hurt hand 100000; terms 6 days 1;" + "when 1 do double;".repeat(7));
        Due.is("sum", moot.sum(0, 10), 10000000);
        moot.later(100);
        int due = 0;
        for (int term = 0; term < 6; term++) {
            due = (due + (term == 0 ? 1666670 : 1666666)) * 2;
        }
        owes(moot, 110, due);
    }
}
