/** "NONE, doing nothing", "false, doing nothing", "-2, and the TAPE stays": the first that is refused on each side. */
public final class RefusedCallsTest {
    private static final int MAX = Integer.MAX_VALUE;
    private static final int MIN = Integer.MIN_VALUE;
    private static final long HAND = Twins.HAND;

    public static void main(String[] args) {
        end();
        lawOfNoFolkOrDay();
        lawWithAFault();
        faultOfAnotherWhat();
        person();
        rank();
        rankTakesTheLastThatCanBe();
        dead();
        deadTakesTheLastThatCanBe();
        truce();
        truceTakesTheLastThatCanBe();
        later();
        hurtByOrOfNobody();
        hurtWithoutAName();
        hurtOnNoDayOrPlace();
        hurtTakesTheLastThatCanBe();
        oathThatCannotBeAsked();
        oathThatDoesNotStand();
        judge();
        rate();
        rateTakesTheLastThatCanBe();
        pay();
        payTakesTheLastThatCanBe();
        questionsChangeNothing();
        Due.finish();
    }

    private static void end() {
        Twins twins = Twins.peopled();
        for (int n : new int[] {-1, 12, 700, MAX, MIN}) {
            twins.refused("end(" + n + ") of 11", -1, moot -> moot.end(n));
        }
        twins.alike();
        twins = Twins.peopled();
        twins.both("end(11) of 11", 11, moot -> moot.end(11));
        twins.both("end(0) of 11", 0, moot -> moot.end(0));
        twins.refused("end(1) of 0", -1, moot -> moot.end(1));
        twins.refused("end(-1) of 0", -1, moot -> moot.end(-1));
        twins.both("end(0) of 0", 0, moot -> moot.end(0));
        twins.alike();
    }

    private static void lawOfNoFolkOrDay() {
        Twins twins = Twins.peopled();
        for (int folk : new int[] {-1, 4, MAX, MIN}) {
            twins.refused("law(" + folk + ", 0)", -2, moot -> moot.law(folk, 0));
        }
        for (int day : new int[] {-1, 100001, MAX, MIN}) {
            twins.refused("law(3, " + day + ")", -2, moot -> moot.law(3, day));
        }
        twins.both("the tape stays", 11, moot -> moot.about(7));
        twins.both("law(0, 0)", 2, moot -> moot.law(0, 0));
        twins.both("the tape is empty", 0, moot -> moot.about(7));
        twins.both("law(3, 100000)", 1, moot -> moot.law(3, 100000));
        twins.alike();
    }

    private static void lawWithAFault() {
        BloodPrice moot = new BloodPrice();
        Due.is("a good law", Due.tell(moot, 0, 0, "hurt a 5;"), 1);
        Due.is("one with a fault", Due.tell(moot, 0, 0, "hurt a 5; hurt"), -1);
        Due.is("none comes", moot.about(10), 1);
        Due.is("the tape is empty", moot.about(7), 0);
        Due.is("lawOn", moot.lawOn(0, 0), 0);
        Due.is("the next one is the second", Due.tell(moot, 0, 0, "hurt a 7;"), 2);
        moot.person(0, -1, -1);
        moot.person(0, -1, -1);
        moot.hurt(0, 1, 'a', 0, 0, false);
        Due.is("sum", moot.sum(0, 0), 7);
        Due.is("another with a fault", Due.tell(moot, 0, 0, "hurt a 9; terms 2 days 3; share"), -1);
        Due.is("sum", moot.sum(0, 0), 7);
    }

    private static void faultOfAnotherWhat() {
        Twins twins = Twins.fresh();
        twins.tape("hurt A");
        twins.both("law", -1, moot -> moot.law(0, 0));
        for (int what : new int[] {-1, 2, MAX, MIN}) {
            twins.refused("fault(" + what + ")", -1, moot -> moot.fault(what));
        }
        twins.refused("law(4, 0)", -2, moot -> moot.law(4, 0));
        twins.both("fault(0)", 1, moot -> moot.fault(0));
        twins.both("fault(1)", 5, moot -> moot.fault(1));
        twins.alike();
    }

    private static void person() {
        Twins twins = Twins.peopled();
        for (int folk : new int[] {-1, 4, MAX, MIN}) {
            twins.refused("person(" + folk + ", 0, 1)", -1, moot -> moot.person(folk, 0, 1));
        }
        for (int parent : new int[] {-2, 6, MAX, MIN}) {
            twins.refused("mother " + parent, -1, moot -> moot.person(0, parent, -1));
            twins.refused("father " + parent, -1, moot -> moot.person(0, -1, parent));
        }
        twins.alike();
        twins = Twins.peopled();
        twins.both("the last that can be", 6, moot -> moot.person(3, 5, 4));
        twins.both("degree(6, 5)", 1, moot -> moot.degree(6, 5));
        twins.both("degree(6, 4)", 1, moot -> moot.degree(6, 4));
        twins.both("the first that can be", 7, moot -> moot.person(0, 0, 0));
        twins.both("degree(7, 0)", 1, moot -> moot.degree(7, 0));
    }

    private static void rank() {
        Twins twins = Twins.peopled();
        for (int person : new int[] {-1, 6, MAX, MIN}) {
            twins.refused("rank(" + person + ", 1, 0)", -1, moot -> moot.rank(person, 1, 0));
        }
        for (int rank : new int[] {-1, 4, MAX, MIN}) {
            twins.refused("rank(0, " + rank + ", 0)", -1, moot -> moot.rank(0, rank, 0));
        }
        for (int day : new int[] {-1, 100001, MAX, MIN}) {
            twins.refused("rank(3, 2, " + day + ")", -1, moot -> moot.rank(3, 2, day));
        }
        twins.alike();
    }

    private static void rankTakesTheLastThatCanBe() {
        Twins twins = Twins.peopled();
        twins.both("rank(5, 3, 100000)", 2, moot -> moot.rank(5, 3, 100000));
        twins.both("ranked(5, 99999)", 0, moot -> moot.ranked(5, 99999, 10));
        twins.both("ranked(5, 100000)", 3, moot -> moot.ranked(5, 100000, 10));
        twins.both("rank(0, 3, 0)", 3, moot -> moot.rank(0, 3, 0));
        twins.both("ranked(0, 0)", 3, moot -> moot.ranked(0, 0, 10));
        twins.both("ranked(0, -1)", 0, moot -> moot.ranked(0, -1, 10));
        twins.both("rank(0, 0, 1)", 4, moot -> moot.rank(0, 0, 1));
        twins.both("ranked(0, 1)", 0, moot -> moot.ranked(0, 1, 10));
    }

    private static void dead() {
        Twins twins = Twins.peopled();
        for (int person : new int[] {-1, 6, MAX, MIN}) {
            twins.refuses("dead(" + person + ", 0)", moot -> moot.dead(person, 0));
        }
        for (int day : new int[] {-1, 100001, MAX, MIN}) {
            twins.refuses("dead(0, " + day + ")", moot -> moot.dead(0, day));
        }
        for (int day : new int[] {0, 7, 8, 9, 100000}) {
            twins.refuses("dead(4, " + day + ") again", moot -> moot.dead(4, day));
        }
        // 4 is a child of who did it in the CASES 0 and 3, DEAD from day 8 on: a hurt on 7 and one on 8 show it.
        twins.both("hurt on 7", 4, moot -> moot.hurt(2, 3, HAND, 7, 0, false));
        twins.both("hurt on 8", 5, moot -> moot.hurt(2, 3, HAND, 8, 0, false));
        twins.both("pays on 7", 12, moot -> moot.pays(4, 4, 10));
        twins.both("pays on 8", 0, moot -> moot.pays(5, 4, 10));
        twins.alike();
    }

    private static void deadTakesTheLastThatCanBe() {
        Twins twins = Twins.peopled();
        twins.tells("dead(5, 100000)", true, moot -> moot.dead(5, 100000));
        twins.refuses("dead(5, 0) again", moot -> moot.dead(5, 0));
        twins.tells("dead(0, 0)", true, moot -> moot.dead(0, 0));
        twins.refuses("dead(0, 100000) again", moot -> moot.dead(0, 100000));
        twins.both("pays of one dead from 0 on", 0, moot -> moot.pays(0, 0, 10));
        twins.alike();
    }

    private static void truce() {
        Twins twins = Twins.peopled();
        for (int folk : new int[] {-1, 4, MAX, MIN}) {
            twins.refused("truce(" + folk + ", 0, ..)", -1, moot -> moot.truce(folk, 0, 0, 100000));
            twins.refused("truce(0, " + folk + ", ..)", -1, moot -> moot.truce(0, folk, 0, 100000));
        }
        for (int from : new int[] {-1, 100001, MAX, MIN}) {
            twins.refused("truce from " + from, -1, moot -> moot.truce(0, 0, from, 100000));
        }
        for (int to : new int[] {-1, 100001, MAX, MIN}) {
            twins.refused("truce to " + to, -1, moot -> moot.truce(0, 0, 0, to));
        }
        twins.refused("truce from 100001 to 100001", -1, moot -> moot.truce(0, 0, 100001, 100001));
        twins.refused("truce from -1 to -1", -1, moot -> moot.truce(0, 0, -1, -1));
        twins.refused("truce from 6 to 5", -1, moot -> moot.truce(0, 0, 6, 5));
        twins.refused("truce from 100000 to 0", -1, moot -> moot.truce(0, 0, 100000, 0));
        twins.alike();
    }

    private static void truceTakesTheLastThatCanBe() {
        Twins twins = Twins.peopled();
        twins.both("truce of one day", 2, moot -> moot.truce(0, 0, 5, 5));
        twins.both("broken", 1, moot -> moot.of(0, 3));
        twins.both("truce on 0", 3, moot -> moot.truce(3, 3, 0, 0));
        twins.both("truce on 100000", 4, moot -> moot.truce(0, 3, 100000, 100000));
        twins.both("truce of all days", 5, moot -> moot.truce(1, 0, 0, 100000));
        twins.both("broken", 1, moot -> moot.of(3, 3));
    }

    private static void later() {
        Twins twins = Twins.peopled();
        for (int days : new int[] {-1, 1001, MAX, MIN}) {
            twins.refused("later(" + days + ")", -1, moot -> moot.later(days));
        }
        twins.both("later(0)", 10, moot -> moot.later(0));
        twins.alike();
        twins = Twins.peopled();
        for (int day = 1010; day <= 99010; day += 1000) {
            twins.both("later(1000)", day, moot -> moot.later(1000));
        }
        twins.refused("to 100001", -1, moot -> moot.later(991));
        twins.refused("to 100010", -1, moot -> moot.later(1000));
        twins.both("to 100000", 100000, moot -> moot.later(990));
        twins.refused("beyond 100000", -1, moot -> moot.later(1));
        twins.both("later(0) on 100000", 100000, moot -> moot.later(0));
        twins.both("a hurt on the last day", 4, moot -> moot.hurt(2, 3, HAND, 100000, 0, false));
        twins.alike();
    }

    private static void hurtByOrOfNobody() {
        Twins twins = Twins.peopled();
        for (int person : new int[] {-1, 6, MAX, MIN}) {
            twins.refused("hurt by " + person, -1, moot -> moot.hurt(person, 0, HAND, 5, 0, false));
            twins.refused("hurt of " + person, -1, moot -> moot.hurt(0, person, HAND, 5, 0, false));
        }
        for (int person = 0; person < 6; person++) {
            int one = person;
            twins.refused("hurt of itself", -1, moot -> moot.hurt(one, one, HAND, 5, 0, false));
        }
        twins.alike();
    }

    private static void hurtWithoutAName() {
        Twins twins = Twins.peopled();
        long[] noNames = {0, 'a' - 1, 'z' + 1, 'A', '0', ' ', '\n', 255, -1, Long.MAX_VALUE, Long.MIN_VALUE,
            Due.name("a`"), Due.name("z{"), Due.name("`a"), Due.name("{z"), HAND << 8, HAND << 32 | 'a',
            'a' | 1L << 56, HAND | 'a' - 1L << 56, 'a' | 'z' + 1L << 56, 'a' | 'a' << 16};
        for (long name : noNames) {
            twins.refused("name " + name, -1, moot -> moot.hurt(2, 3, name, 5, 0, false));
        }
        for (String word : Due.NO_NAMES) {
            twins.refused("name " + word, -1, moot -> moot.hurt(2, 3, Due.name(word), 5, 0, false));
        }
        twins.alike();
    }

    private static void hurtOnNoDayOrPlace() {
        Twins twins = Twins.peopled();
        for (int day : new int[] {-1, 11, 100000, MAX, MIN}) {
            twins.refused("hurt on " + day, -1, moot -> moot.hurt(2, 3, HAND, day, 0, false));
        }
        for (int place : new int[] {-1, 4, MAX, MIN}) {
            twins.refused("hurt at " + place, -1, moot -> moot.hurt(2, 3, HAND, 5, place, false));
        }
        twins.alike();
    }

    private static void hurtTakesTheLastThatCanBe() {
        Twins twins = Twins.peopled();
        twins.both("now, at 3", 4, moot -> moot.hurt(5, 0, HAND, 10, 3, true));
        twins.both("on 0, at 0", 5, moot -> moot.hurt(0, 5, HAND, 0, 0, false));
        twins.both("a name of one letter", 6, moot -> moot.hurt(0, 5, 'a', 0, 0, false));
        twins.both("another", 7, moot -> moot.hurt(0, 5, 'z', 0, 0, false));
        twins.both("a name of eight", 8, moot -> moot.hurt(0, 5, Due.name("zzzzzzzz"), 0, 0, false));
        twins.both("another", 9, moot -> moot.hurt(0, 5, Due.name("aaaaaaaa"), 0, 0, false));
        int[] due = {5, 0, 10, 0, -1, -1};
        for (int what = 0; what < due.length; what++) {
            int one = what;
            twins.both("of(4, " + one + ")", due[one], moot -> moot.of(4, one));
        }
    }

    private static void oathThatCannotBeAsked() {
        Twins twins = Twins.peopled();
        for (int which : new int[] {-1, 4, MAX, MIN}) {
            twins.refused("oath(" + which + ", 8)", -1, moot -> moot.oath(which, 1 << 3));
        }
        twins.refused("of a judged one", -1, moot -> moot.oath(0, 1 << 5));
        twins.refused("of a cleared one", -1, moot -> moot.oath(2, 1 << 3));
        twins.refused("without a law", -1, moot -> moot.oath(3, 1 << 3));
        twins.alike();
    }

    private static void oathThatDoesNotStand() {
        Twins twins = Twins.peopled();
        twins.refused("too few", 0, moot -> moot.oath(1, 0));
        twins.refused("of rank 0", 0, moot -> moot.oath(1, 1 << 1));
        twins.refused("who did it", 0, moot -> moot.oath(1, 1 << 3 | 1));
        twins.refused("who was hurt", 0, moot -> moot.oath(1, 1 << 3 | 1 << 5));
        twins.refused("of degree 1", 0, moot -> moot.oath(1, 1 << 3 | 1 << 2));
        twins.refused("a dead one", 0, moot -> moot.oath(1, 1 << 3 | 1 << 4));
        twins.refused("nobody", 0, moot -> moot.oath(1, 1 << 3 | 1 << 6));
        twins.refused("all bits", 0, moot -> moot.oath(1, -1));
        twins.alike();
    }

    private static void judge() {
        Twins twins = Twins.peopled();
        for (int which : new int[] {-1, 4, MAX, MIN}) {
            twins.refused("judge(" + which + ")", -1, moot -> moot.judge(which));
        }
        twins.refused("again", -1, moot -> moot.judge(0));
        twins.refused("without a sum", -1, moot -> moot.judge(3));
        twins.both("on a later day", 13, moot -> moot.later(3));
        twins.refused("again", -1, moot -> moot.judge(0));
        twins.both("judged", 10, moot -> moot.of(0, 5));
        twins.both("not judged", -1, moot -> moot.of(3, 5));
        twins.alike();
    }

    private static void rate() {
        Twins twins = Twins.peopled();
        for (int kind : new int[] {-1, 4, MAX, MIN}) {
            twins.refuses("rate(" + kind + ", 7)", moot -> moot.rate(kind, 7));
        }
        for (int worth : new int[] {-1, 1001, MAX, MIN}) {
            twins.refuses("rate(0, " + worth + ")", moot -> moot.rate(0, worth));
            twins.refuses("rate(3, " + worth + ")", moot -> moot.rate(3, worth));
        }
        twins.alike();
    }

    private static void rateTakesTheLastThatCanBe() {
        Twins twins = Twins.peopled();
        twins.tells("rate(3, 1000)", true, moot -> moot.rate(3, 1000));
        twins.both("pay(0, 3, 1)", 1000, moot -> moot.pay(0, 3, 1));
        twins.tells("rate(0, 0)", true, moot -> moot.rate(0, 0));
        twins.both("pay(0, 0, 1000)", 0, moot -> moot.pay(0, 0, 1000));
        twins.both("about(6)", 3, moot -> moot.about(6));
    }

    private static void pay() {
        Twins twins = Twins.peopled();
        for (int which : new int[] {-1, 4, MAX, MIN}) {
            twins.refused("pay(" + which + ", 0, 1)", -1, moot -> moot.pay(which, 0, 1));
        }
        for (int which = 1; which < 4; which++) {
            int one = which;
            twins.refused("of one not judged", -1, moot -> moot.pay(one, 0, 1));
        }
        for (int kind : new int[] {-1, 4, MAX, MIN}) {
            twins.refused("pay(0, " + kind + ", 1)", -1, moot -> moot.pay(0, kind, 1));
        }
        for (int beasts : new int[] {0, -1, 1001, MAX, MIN}) {
            twins.refused("pay(0, 0, " + beasts + ")", -1, moot -> moot.pay(0, 0, beasts));
        }
        twins.alike();
    }

    private static void payTakesTheLastThatCanBe() {
        Twins twins = Twins.peopled();
        twins.both("1 beast", 3, moot -> moot.pay(0, 0, 1));
        twins.both("1000 beasts", 3000, moot -> moot.pay(0, 0, 1000));
        twins.both("of the last kind", 0, moot -> moot.pay(0, 3, 1000));
        twins.both("owed", 120 - 15 - 3003, moot -> moot.owed(0, 10));
    }

    private static void questionsChangeNothing() {
        Twins twins = Twins.peopled();
        int[] degrees = {0, 2, 1, -1, 2, -1, -1};
        for (int person = 0; person < degrees.length; person++) {
            int one = person;
            twins.refused("degree(0, " + one + ")", degrees[one], moot -> moot.degree(0, one));
        }
        for (int any : new int[] {-1, 6, 9, 11, MAX, MIN}) {
            twins.refused("lawOn(" + any + ", 4)", -1, moot -> moot.lawOn(any, 4));
            twins.refused("ranked(" + any + ", 4, 4)", -1, moot -> moot.ranked(any, 4, 4));
            twins.refused("pays(0, " + any + ", 4)", -1, moot -> moot.pays(0, any, 4));
            twins.refused("has(" + any + ", 0, 4)", -1, moot -> moot.has(any, 0, 4));
            twins.refused("owed(0, " + any + ")", -2000000001, moot -> moot.owed(0, any));
        }
        twins.alike();
    }
}
