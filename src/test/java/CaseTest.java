/** Promises 14, 15 and 17: CASES, their SUMS and what is known of them. */
public final class CaseTest {
    private static final long HAND = Due.name("hand");

    public static void main(String[] args) {
        whatCannotBe();
        twentyCases();
        deeds();
        conditions();
        bounds();
        kinship();
        asKnown();
        ofACase();
        Due.finish();
    }

    private static void whatCannotBe() {
        BloodPrice moot = new BloodPrice();
        moot.person(0, -1, -1);
        moot.person(0, -1, -1);
        moot.later(3);
        Due.is("by itself", moot.hurt(0, 0, HAND, 0, 0, false), -1);
        Due.is("by nobody", moot.hurt(2, 0, HAND, 0, 0, false), -1);
        Due.is("by -1", moot.hurt(-1, 0, HAND, 0, 0, false), -1);
        Due.is("of nobody", moot.hurt(0, 2, HAND, 0, 0, false), -1);
        Due.is("of -1", moot.hurt(0, -1, HAND, 0, 0, false), -1);
        Due.is("of MIN", moot.hurt(0, Integer.MIN_VALUE, HAND, 0, 0, false), -1);
        Due.is("after now", moot.hurt(0, 1, HAND, 4, 0, false), -1);
        Due.is("before day 0", moot.hurt(0, 1, HAND, -1, 0, false), -1);
        Due.is("place -1", moot.hurt(0, 1, HAND, 0, -1, false), -1);
        Due.is("place 4", moot.hurt(0, 1, HAND, 0, 4, false), -1);
        long[] noNames = {0, 1, 'A', '5', -1, Long.MIN_VALUE, HAND << 8, HAND << 16 | 'a', HAND << 8 | ' ',
            HAND << 8 | 'Z', 0x6100000000000000L, 0x8061616161616161L};
        for (long name : noNames) {
            Due.is("name " + name, moot.hurt(0, 1, name, 0, 0, false), -1);
        }
        for (String word : Due.NO_NAMES) {
            Due.is("name " + word, moot.hurt(0, 1, Due.name(word), 0, 0, false), -1);
        }
        Due.is("about(4)", moot.about(4), 0);
        Due.is("a name of 1", moot.hurt(0, 1, 'a', 3, 3, true), 0);
        Due.is("a name of 8", moot.hurt(0, 1, Due.name("zzzzzzzz"), 0, 0, true), 1);
        Due.is("sum(-1)", moot.sum(-1, 0), -1);
        Due.is("sum(2)", moot.sum(2, 0), -1);
        Due.is("sum(MAX)", moot.sum(Integer.MAX_VALUE, 0), -1);
    }

    private static void twentyCases() {
        BloodPrice moot = new BloodPrice();
        moot.person(0, -1, -1);
        moot.person(0, -1, -1);
        for (int i = 0; i < 20; i++) {
            Due.is("hurt", moot.hurt(0, 1, HAND, 0, 0, false), i);
        }
        Due.is("21st hurt", moot.hurt(0, 1, HAND, 0, 0, false), -1);
        Due.is("about(4)", moot.about(4), 20);
    }

    private static void deeds() {
        price("", 60);
        price("when 1 do double;", 120);
        price("when 1 do half; when 1 do half; when 1 do half;", 7);
        price("when 1 do add 5; when 1 do double;", 130);
        price("when 1 do double; when 1 do add 5;", 125);
        price("when 1 do less 59;", 1);
        price("when 1 do less 60;", 0);
        price("when 1 do less 61; when 1 do add 3;", 3);
        price("when 0 do double;", 60);
        Due.is("whens ahead of the hurt", Due.price("when 1 do double; hurt hand 60;"), 120);
        Due.is("the second hurt's N", Due.price("hurt foot 9; hurt hand 60;"), 60);
        Due.is("a name that only begins alike", Due.price("hurt handle 9;"), -1);
        Due.is("no hurts", Due.price(""), -1);
    }

    private static void conditions() {
        holds("1 < 2", true);
        holds("2 < 2", false);
        holds("2 > 1", true);
        holds("2 > 2", false);
        holds("2 = 2", true);
        holds("2 = 1", false);
        holds("rank = 2", true);
        holds("other = 1", true);
        holds("place = 3", true);
        holds("night = 1", true);
        holds("kin = 0", true);
        holds("truce = 0", true);
        holds("sum = 60", true);
        holds("rank", true);
        holds("kin", false);
        holds("not kin", true);
        holds("not rank", false);
        holds("not not rank", true);
        holds("not rank = 1", true);
        holds("not rank = 2", false);
        holds("0 or 3", true);
        holds("0 or 0", false);
        holds("2 and 1", true);
        holds("2 and 0", false);
        holds("1 or 1 and 0", true);
        holds("(1 or 1) and 0", false);
        holds("0 and 0 or 1", true);
        holds("0 and (0 or 1)", false);
        holds("not 0 and 0", false);
        holds("not (0 and 0)", true);
        holds("not 1 or 1", true);
        holds("not (1 or 1)", false);
        holds("0 or 0 or 0 or 5", true);
        holds("1 and 2 and 3 and 0", false);
        holds("(((((place > rank)))))", true);
        Due.is("sum so far", Due.price("hurt hand 60; when sum > 59 do half; when sum > 59 do add 1000;"), 30);
        Due.is("sum so far", Due.price("hurt hand 60; when 1 do add 1; when sum = 61 do add 1000;"), 1061);
    }

    private static void bounds() {
        String doubles = "when 1 do double;".repeat(7);
        price("when 1 do add 99940;" + doubles, 10000000);
        Due.is("6 times doubled", Due.price("hurt hand 100000;" + "when 1 do double;".repeat(6)), 6400000);
        Due.is("cut at once", Due.price("hurt hand 100000;" + doubles + "when 1 do half;"), 5000000);
        Due.is("added at the bound", Due.price("hurt hand 100000;" + doubles + "when 1 do add 100000;"), 10000000);
        Due.is("less at the bound", Due.price("hurt hand 100000;" + doubles + "when 1 do less 1;"), 9999999);
        Due.is("sum seen at the bound",
            Due.price("hurt hand 100000;" + doubles + "when sum > 999999 do less 100000;"), 9900000);
    }

    private static void kinship() {
        BloodPrice moot = new BloodPrice();
        for (int i = 0; i < 5; i++) {
            moot.person(0, i - 1, -1);
        }
        Due.tell(moot, 0, 0, "hurt hand 60; when kin = 1 do half; when truce = 1 do double;");
        moot.hurt(0, 3, HAND, 0, 0, false);
        moot.hurt(4, 0, HAND, 0, 0, false);
        Due.is("degree 3", moot.sum(0, 0), 30);
        Due.is("degree 4", moot.sum(1, 0), 60);
        moot.person(0, 4, 0);
        Due.is("degree 4, by a child now 2", moot.sum(1, 0), 30);
        moot.truce(0, 0, 0, 0);
        Due.is("with a truce", moot.sum(0, 0), 60);
    }

    private static void asKnown() {
        BloodPrice moot = new BloodPrice();
        Due.tell(moot, 0, 0, "hurt hand 60; when rank > 1 do add 100; when other = 3 do add 1000;");
        moot.person(0, -1, -1);
        moot.person(0, -1, -1);
        moot.later(10);
        moot.hurt(0, 1, HAND, 5, 0, false);
        moot.rank(1, 2, 5);
        moot.later(10);
        moot.rank(0, 3, 0);
        moot.rank(1, 0, 6);
        Due.is("known on 9", moot.sum(0, 9), 60);
        Due.is("known on 10", moot.sum(0, 10), 160);
        Due.is("known on 19", moot.sum(0, 19), 160);
        Due.is("known on 20", moot.sum(0, 20), 1160);
        Due.is("known ever", moot.sum(0, Integer.MAX_VALUE), 1160);
        Due.is("known never", moot.sum(0, Integer.MIN_VALUE), 60);
    }

    private static void ofACase() {
        BloodPrice moot = new BloodPrice();
        moot.person(0, -1, -1);
        moot.person(1, -1, -1);
        moot.later(9);
        moot.hurt(1, 0, HAND, 4, 0, false);
        int[] due = {1, 0, 4, 0, -1, -1};
        for (int what = 0; what < due.length; what++) {
            Due.is("of(0, " + what + ")", moot.of(0, what), due[what]);
        }
        Due.is("of(0, 6)", moot.of(0, 6), -1);
        Due.is("of(0, -1)", moot.of(0, -1), -1);
        Due.is("of(1, 0)", moot.of(1, 0), -1);
        Due.is("of(-1, 0)", moot.of(-1, 0), -1);
    }

    private static void price(String whens, int due) {
        Due.is(whens, Due.price("hurt hand 60; " + whens), due);
    }

    private static void holds(String e, boolean due) {
        price("when " + e + " do add 1;", due ? 61 : 60);
    }
}
