/** "If there would be more than 700", "or there are 4 / 10 / 20 / 60", "or 100 were told": the last one, and one more. */
public final class FullTest {
    private static final long HAND = Twins.HAND;

    public static void main(String[] args) {
        tapeOf700Bytes();
        tapeThatIsNotEvenlyFull();
        fourLawsEach();
        twentyPeople();
        sixtyTolds();
        tenTruces();
        twentyCases();
        hundredRates();
        sixtyPayments();
        Due.finish();
    }

    private static void tapeOf700Bytes() {
        Twins twins = Twins.peopled();
        twins.both("end(0)", 0, moot -> moot.end(0));
        String text = "hurt eye 5;" + " ".repeat(689);
        twins.tape(text);
        twins.both("about(7)", 700, moot -> moot.about(7));
        twins.refused("feed to 720", -1, moot -> moot.feed(-1, -1, -1, -1, -1));
        twins.refused("feed to 720", -1, moot -> moot.feed(0, 0, 0, 0, 0));
        twins.refused("end(701)", -1, moot -> moot.end(701));
        twins.both("about(7)", 700, moot -> moot.about(7));
        twins.alike();
    }

    private static void tapeThatIsNotEvenlyFull() {
        Twins twins = Twins.peopled();
        twins.both("end(0)", 0, moot -> moot.end(0));
        twins.tape(" ".repeat(670) + "hurt eye 5;");
        twins.both("about(7)", 681, moot -> moot.about(7));
        twins.refused("feed to 701", -1, moot -> moot.feed(-1, -1, -1, -1, -1));
        twins.both("about(7)", 681, moot -> moot.about(7));
        twins.alike();
        twins = Twins.fresh();
        twins.tape(" ".repeat(669) + "hurt eye 5;");
        int blanks = 0x20202020;
        twins.both("feed to 700", 700, moot -> moot.feed(blanks, blanks, blanks, blanks, blanks));
        twins.both("law(0, 0)", 1, moot -> moot.law(0, 0));
        twins.both("feed to 20", 20, moot -> moot.feed(blanks, blanks, blanks, blanks, blanks));
    }

    private static void fourLawsEach() {
        Twins twins = Twins.peopled();
        twins.both("the tape stays for later", 0, moot -> moot.end(0));
        for (int laws = 2; laws <= 4; laws++) {
            int due = laws;
            twins.both("law(0, 20)", due, moot -> moot.law(0, 20));
        }
        twins.tape("hurt eye 5;");
        twins.refused("law(0, 0)", -2, moot -> moot.law(0, 0));
        twins.refused("law(0, 20)", -2, moot -> moot.law(0, 20));
        twins.refused("law(0, 100000)", -2, moot -> moot.law(0, 100000));
        twins.both("about(7)", 11, moot -> moot.about(7));
        twins.both("about(10)", 4, moot -> moot.about(10));
        twins.both("lawOn(0, 20)", 3, moot -> moot.lawOn(0, 20));
        twins.both("another folk's", 2, moot -> moot.law(1, 0));
        twins.alike();
        twins = Twins.fresh();
        twins.tape("hurt");
        twins.both("a law with a fault", -1, moot -> moot.law(3, 0));
        for (int laws = 1; laws <= 4; laws++) {
            int due = laws;
            twins.both("law(3, 0)", due, moot -> moot.law(3, 0));
        }
        twins.tape("hurt");
        twins.refused("a fifth, with a fault", -2, moot -> moot.law(3, 0));
        twins.both("no fault", 0, moot -> moot.fault(0));
        twins.both("about(13)", 4, moot -> moot.about(13));
        twins.both("about(7)", 4, moot -> moot.about(7));
        twins.alike();
    }

    private static void twentyPeople() {
        Twins twins = Twins.peopled();
        for (int person = 6; person < 20; person++) {
            int due = person;
            twins.both("person", due, moot -> moot.person(0, due - 1, -1));
        }
        twins.refused("a 21st", -1, moot -> moot.person(0, -1, -1));
        twins.refused("a 21st", -1, moot -> moot.person(3, 19, 0));
        twins.both("about(1)", 20, moot -> moot.about(1));
        twins.both("degree(5, 19)", 14, moot -> moot.degree(5, 19));
        twins.both("degree(0, 19)", -1, moot -> moot.degree(0, 19));
        twins.both("degree(19, 20)", -1, moot -> moot.degree(19, 20));
        twins.both("ranked(20)", -1, moot -> moot.ranked(20, 0, 0));
        twins.both("rank(19, 3, 0)", 2, moot -> moot.rank(19, 3, 0));
        twins.both("ranked(19)", 3, moot -> moot.ranked(19, 0, 10));
        twins.both("hurt(19, 18)", 4, moot -> moot.hurt(19, 18, HAND, 10, 0, false));
        twins.both("sum", 59, moot -> moot.sum(4, 10));
        twins.both("oath(1, 19)", 1, moot -> moot.oath(1, 1 << 19));
        twins.alike();
    }

    private static void sixtyTolds() {
        Twins twins = Twins.peopled();
        for (int told = 2; told <= 60; told++) {
            int due = told;
            twins.both("rank", due, moot -> moot.rank(5, due % 4, due));
        }
        twins.refused("a 61st", -1, moot -> moot.rank(5, 3, 60));
        twins.refused("a 61st of another", -1, moot -> moot.rank(0, 3, 0));
        twins.both("about(2)", 60, moot -> moot.about(2));
        twins.both("ranked(5, 60)", 0, moot -> moot.ranked(5, 60, 10));
        twins.both("ranked(5, 59)", 3, moot -> moot.ranked(5, 59, 10));
        twins.alike();
    }

    private static void tenTruces() {
        Twins twins = Twins.peopled();
        for (int truces = 2; truces <= 9; truces++) {
            int due = truces;
            twins.both("truce", due, moot -> moot.truce(2, 3, due, due));
        }
        twins.both("the tenth", 10, moot -> moot.truce(1, 0, 10, 10));
        twins.refused("an 11th", -1, moot -> moot.truce(0, 0, 5, 5));
        twins.refused("an 11th", -1, moot -> moot.truce(0, 1, 0, 100000));
        twins.both("about(3)", 10, moot -> moot.about(3));
        twins.both("not broken", 0, moot -> moot.of(0, 3));
        twins.both("hurt(5, 0)", 4, moot -> moot.hurt(5, 0, HAND, 10, 0, false));
        twins.both("the tenth is broken", 1, moot -> moot.of(4, 3));
        twins.alike();
    }

    private static void twentyCases() {
        Twins twins = Twins.peopled();
        for (int which = 4; which < 20; which++) {
            int due = which;
            twins.both("hurt", due, moot -> moot.hurt(3, due % 2 == 0 ? 0 : 2, HAND, due % 11, due % 4, false));
        }
        twins.refused("a 21st", -1, moot -> moot.hurt(3, 0, HAND, 10, 0, false));
        twins.both("about(4)", 20, moot -> moot.about(4));
        twins.both("of(19, 1)", 2, moot -> moot.of(19, 1));
        twins.both("of(19, 2)", 8, moot -> moot.of(19, 2));
        twins.both("of(20, 0)", -1, moot -> moot.of(20, 0));
        twins.both("sum(19)", 60, moot -> moot.sum(19, 10));
        twins.both("sum(20)", -1, moot -> moot.sum(20, 10));
        twins.both("judge(19)", 60, moot -> moot.judge(19));
        twins.both("pay(19, 0, 2)", 6, moot -> moot.pay(19, 0, 2));
        twins.both("owed(19)", 54, moot -> moot.owed(19, 10));
        twins.alike();
    }

    private static void hundredRates() {
        Twins twins = Twins.peopled();
        for (int told = 2; told <= 100; told++) {
            int rate = told;
            twins.tells("rate", true, moot -> moot.rate(rate % 4, 10 * rate));
        }
        twins.refuses("a 101st", moot -> moot.rate(0, 5));
        twins.refuses("a 101st of another kind", moot -> moot.rate(3, 5));
        twins.both("about(6)", 100, moot -> moot.about(6));
        twins.both("pay(0, 0, 1)", 1000, moot -> moot.pay(0, 0, 1));
        twins.both("pay(0, 3, 1)", 990, moot -> moot.pay(0, 3, 1));
        twins.alike();
    }

    private static void sixtyPayments() {
        Twins twins = Twins.peopled();
        twins.both("judge(1)", 67, moot -> moot.judge(1));
        for (int payments = 2; payments <= 60; payments++) {
            int beasts = payments;
            twins.both("pay", 3 * beasts, moot -> moot.pay(beasts % 2, 0, beasts));
        }
        twins.refused("a 61st", -1, moot -> moot.pay(0, 0, 1));
        twins.refused("a 61st of another case", -1, moot -> moot.pay(1, 0, 1));
        twins.both("about(5)", 60, moot -> moot.about(5));
        twins.both("owed(0)", 120 - 15 - 3 * 930, moot -> moot.owed(0, 10));
        twins.both("owed(1)", 67 - 3 * 899, moot -> moot.owed(1, 10));
        twins.alike();
    }
}
