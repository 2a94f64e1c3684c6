import java.util.function.Predicate;
import java.util.function.ToLongFunction;

/** Two moots that are told the same; one is also asked what it must refuse, and must not differ from the other. */
final class Twins {
    static final long HAND = Due.name("hand");
    static final String TEXT = "hurt hand 60; when rank = 1 do double; when truce do add 7; when kin do less 1;"
        + " share 2 1 1 1; need 1 rank 1; terms 2 days 5;";

    private static final int MOST_CALLS = 512;

    private final BloodPrice plain = new BloodPrice();
    private final BloodPrice tried = new BloodPrice();
    private int calls;

    /** Two moots that nothing was told. */
    static Twins fresh() {
        return new Twins();
    }

    /** On day 10: six PEOPLE, and of CASES one JUDGED (0), one open (1), one CLEARED (2), one without a SUM (3). */
    static Twins peopled() {
        Twins twins = new Twins();
        twins.tape(TEXT);
        twins.both("law(0, 0)", 1, moot -> moot.law(0, 0));
        twins.tape(TEXT);
        twins.both("law(1, 4)", 1, moot -> moot.law(1, 4));
        twins.both("person 0", 0, moot -> moot.person(0, -1, -1));
        twins.both("person 1", 1, moot -> moot.person(1, -1, -1));
        twins.both("person 2", 2, moot -> moot.person(0, 0, 1));
        twins.both("person 3", 3, moot -> moot.person(0, -1, -1));
        twins.both("person 4", 4, moot -> moot.person(0, 2, -1));
        twins.both("person 5", 5, moot -> moot.person(1, -1, -1));
        twins.both("later(10)", 10, moot -> moot.later(10));
        twins.both("rank(3, 1, 2)", 1, moot -> moot.rank(3, 1, 2));
        twins.tells("dead(4, 8)", true, moot -> moot.dead(4, 8));
        twins.both("truce(0, 1, 3, 4)", 1, moot -> moot.truce(0, 1, 3, 4));
        twins.both("hurt 0", 0, moot -> moot.hurt(2, 3, HAND, 5, 0, false));
        twins.both("hurt 1", 1, moot -> moot.hurt(0, 5, HAND, 4, 3, true));
        twins.both("hurt 2", 2, moot -> moot.hurt(0, 2, HAND, 10, 0, false));
        twins.both("hurt 3", 3, moot -> moot.hurt(2, 1, HAND, 3, 0, false));
        twins.both("judge(0)", 120, moot -> moot.judge(0));
        twins.both("oath(2, 8)", 1, moot -> moot.oath(2, 1 << 3));
        twins.tells("rate(0, 3)", true, moot -> moot.rate(0, 3));
        twins.both("pay(0, 0, 5)", 15, moot -> moot.pay(0, 0, 5));
        twins.tape("hurt eye 5;");
        return twins;
    }

    /** Puts a text on the empty tapes. */
    void tape(String text) {
        for (int at = 0; at < text.length(); at += 20) {
            int[] n = Due.twentyBytes(text, at);
            both("feed", Math.min(at + 20, 700), moot -> moot.feed(n[0], n[1], n[2], n[3], n[4]));
        }
        both("end(" + text.length() + ")", text.length(), moot -> moot.end(text.length()));
    }

    /** A call that both take. */
    void both(String call, long due, ToLongFunction<BloodPrice> asked) {
        calls++;
        Due.is(call, asked.applyAsLong(plain), due);
        Due.is(call, asked.applyAsLong(tried), due);
    }

    void tells(String call, boolean due, Predicate<BloodPrice> told) {
        both(call, due ? 1 : 0, moot -> told.test(moot) ? 1 : 0);
    }

    /** A call that is refused, of one alone. */
    void refused(String call, long due, ToLongFunction<BloodPrice> asked) {
        calls++;
        Due.is(call, asked.applyAsLong(tried), due);
    }

    void refuses(String call, Predicate<BloodPrice> told) {
        refused(call, 0, moot -> told.test(moot) ? 1 : 0);
    }

    /** Nothing has changed: all that can be asked is answered alike, now and when both are told more. */
    void alike() {
        askAll();
        tellMore();
        askAll();
        Due.is("calls " + calls + " are at most " + MOST_CALLS, calls <= MOST_CALLS, true);
    }

    private void asked(String call, ToLongFunction<BloodPrice> asked) {
        calls++;
        Due.is("after a refused call: " + call, asked.applyAsLong(tried), asked.applyAsLong(plain));
    }

    private void askAll() {
        for (int what = 0; what <= 13; what++) {
            int one = what;
            asked("about(" + one + ")", moot -> moot.about(one));
        }
        asked("fault(0)", moot -> moot.fault(0));
        asked("fault(1)", moot -> moot.fault(1));
        for (int folk = 0; folk < 4; folk++) {
            int one = folk;
            asked("lawOn(" + one + ", 4)", moot -> moot.lawOn(one, 4));
        }
        for (int person = 0; person < 6; person++) {
            int one = person;
            asked("degree(2, " + one + ")", moot -> moot.degree(2, one));
            asked("ranked(" + one + ", 10, 10)", moot -> moot.ranked(one, 10, 10));
            asked("ranked(" + one + ", 100000, 10)", moot -> moot.ranked(one, 100000, 10));
        }
        for (int which = 0; which < 4; which++) {
            askCase(which);
        }
    }

    private void askCase(int which) {
        asked("sum(" + which + ", 9)", moot -> moot.sum(which, 9));
        asked("sum(" + which + ", 10)", moot -> moot.sum(which, 10));
        for (int what = 0; what <= 5; what++) {
            int one = what;
            asked("of(" + which + ", " + one + ")", moot -> moot.of(which, one));
        }
        for (int person = 0; person < 6; person++) {
            int one = person;
            asked("pays(" + which + ", " + one + ", 10)", moot -> moot.pays(which, one, 10));
            asked("has(" + which + ", " + one + ", 10)", moot -> moot.has(which, one, 10));
        }
        asked("owed(" + which + ", 10)", moot -> moot.owed(which, 10));
    }

    /** Brings out what no question shows: the tape's bytes, the RATES, whether somebody is DEAD. */
    private void tellMore() {
        asked("law(2, 0)", moot -> moot.law(2, 0));
        asked("oath(1, 8)", moot -> moot.oath(1, 1 << 3));
        for (int kind = 0; kind < 4; kind++) {
            int one = kind;
            asked("pay(0, " + one + ", 1)", moot -> moot.pay(0, one, 1));
        }
        for (int person = 0; person < 6; person++) {
            int one = person;
            asked("dead(" + one + ", 0)", moot -> moot.dead(one, 0) ? 1 : 0);
        }
        asked("person(0, 5, 3)", moot -> moot.person(0, 5, 3));
        asked("rank(2, 2, 1)", moot -> moot.rank(2, 2, 1));
        asked("truce(0, 0, 5, 5)", moot -> moot.truce(0, 0, 5, 5));
        asked("hurt(3, 2)", moot -> moot.hurt(3, 2, HAND, 9, 1, false));
        asked("judge(1)", moot -> moot.judge(1));
        asked("rate(1, 9)", moot -> moot.rate(1, 9) ? 1 : 0);
        asked("later(6)", moot -> moot.later(6));
    }
}
