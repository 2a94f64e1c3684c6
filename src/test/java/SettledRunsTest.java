import java.util.Map;
import java.util.Random;
import java.util.TreeMap;

/**
 * Random runs on the class and on the slow reckoning in which LAWS stand from the first on and CASES are JUDGED.
 * RandomRunsTest asks mostly what is refused; here each call must be answered so often that it is truly compared.
 */
public final class SettledRunsTest {
    private static final int RUNS = 400;
    private static final int CALLS = 512;
    private static final int LEAST_ANSWERS = 1500;
    private static final int UNASKED = -2000000001;
    private static final String[] NAMES = {"hand", "eye", "a", "abcdefgh"};
    private static final String[] WORDS = {"rank", "other", "place", "night", "kin", "truce", "sum"};

    private static final Map<String, Integer> ANSWERED = new TreeMap<>();

    private final Random random;
    private final BloodPrice moot = new BloodPrice();
    private final Model model = new Model();
    private final String run;
    private int calls;

    private SettledRunsTest(int seed) {
        random = new Random(seed);
        run = "run " + seed + ": ";
    }

    public static void main(String[] args) {
        for (int seed = 0; seed < RUNS; seed++) {
            new SettledRunsTest(seed).play();
        }
        for (String call : "sum pays has oath judge pay owed".split(" ")) {
            int answers = ANSWERED.getOrDefault(call, 0);
            Due.is(call + " was answered " + answers + " times, enough", answers >= LEAST_ANSWERS, true);
        }
        Due.finish();
    }

    private int upTo(int most) {
        return random.nextInt(most + 1);
    }

    private int now() {
        return model.about(0);
    }

    private void alike(String call, long got, long due) {
        calls++;
        if (due != BloodPrice.NONE && due != UNASKED) {
            ANSWERED.merge(call, 1, Integer::sum);
        }
        Due.is(run + call, got, due);
    }

    private void alike(String call, boolean got, boolean due) {
        alike(call, got ? 1 : 0, due ? 1 : 0);
    }

    private void play() {
        for (int folk = 0; folk < 3; folk++) {
            tellLaw(folk, upTo(3) == 0 ? upTo(3) : 0);
        }
        for (int kind = 0; kind < 4; kind++) {
            tellRate(kind);
        }
        for (int person = 0; person < 9; person++) {
            tellPerson();
        }
        while (calls < CALLS) {
            if (upTo(2) == 0) {
                tell();
            } else {
                ask();
            }
        }
    }

    private void tellLaw(int folk, int day) {
        String text = text();
        for (int at = 0; at < text.length(); at += 20) {
            int[] n = Due.twentyBytes(text, at);
            alike("feed", moot.feed(n[0], n[1], n[2], n[3], n[4]), model.feed(n));
        }
        alike("end", moot.end(text.length()), model.end(text.length()));
        alike("law of \"" + text + "\"", moot.law(folk, day), model.law(folk, day));
    }

    private String text() {
        StringBuilder text = new StringBuilder();
        for (String name : NAMES) {
            if (upTo(5) > 0) {
                text.append("hurt ").append(name).append(' ').append(upTo(upTo(3) == 0 ? 100000 : 300)).append(';');
            }
        }
        for (int i = upTo(4); i > 0; i--) {
            text.append("when ").append(condition(2)).append(" do ").append(deed()).append(';');
        }
        text.append("share ").append(1 + upTo(3)).append(' ').append(upTo(4)).append(' ').append(upTo(4)).append(' ')
            .append(upTo(4)).append(';');
        if (upTo(1) == 0) {
            text.append("need ").append(upTo(2)).append(" rank ").append(upTo(2)).append(';');
        }
        return text.append("terms ").append(1 + upTo(5)).append(" days ").append(1 + upTo(5)).append(';').toString();
    }

    private String deed() {
        return new String[] {"double", "half", "add " + upTo(90), "less " + upTo(50)}[upTo(3)];
    }

    private String condition(int depth) {
        int form = depth == 0 ? 4 + upTo(1) : upTo(5);
        return switch (form) {
            case 0 -> condition(depth - 1) + " or " + condition(depth - 1);
            case 1 -> condition(depth - 1) + " and " + condition(depth - 1);
            case 2 -> "not " + condition(depth - 1);
            case 3 -> "(" + condition(depth - 1) + ")";
            case 4 -> operand();
            default -> operand() + "<>=".charAt(upTo(2)) + operand();
        };
    }

    private String operand() {
        return upTo(3) == 0 ? Integer.toString(upTo(3)) : WORDS[upTo(6)];
    }

    private void tellPerson() {
        int folk = upTo(4) == 0 ? 2 : upTo(1);
        int mother = upTo(model.about(1)) - 1;
        int father = upTo(model.about(1)) - 1;
        alike("person", moot.person(folk, mother, father), model.person(folk, mother, father));
    }

    private void tellRate(int kind) {
        int worth = upTo(upTo(9) == 0 ? 1000 : 12);
        alike("rate", moot.rate(kind, worth), model.rate(kind, worth));
    }

    private int someone() {
        return upTo(model.about(1) - 1);
    }

    private int someCase() {
        return upTo(Math.max(0, model.about(4) - 1));
    }

    private void tell() {
        int who = someone();
        int which = someCase();
        int day = upTo(now() + 3);
        switch (upTo(16)) {
            case 0, 1 -> tellHurt();
            case 2, 3 -> {
                int rank = upTo(3);
                alike("rank", moot.rank(who, rank, day), model.rank(who, rank, day));
            }
            case 4 -> alike("dead", moot.dead(who, day), model.dead(who, day));
            case 5 -> tellTruce(day);
            case 6, 7 -> {
                int days = upTo(4);
                alike("later", moot.later(days), model.later(days));
            }
            case 8, 9 -> swear(which);
            case 10, 11 -> alike("judge", moot.judge(which), model.judge(which));
            case 12 -> tellRate(upTo(3));
            case 13 -> tellLateComer();
            default -> {
                int kind = upTo(3);
                int beasts = 1 + upTo(upTo(9) == 0 ? 999 : 9);
                alike("pay", moot.pay(which, kind, beasts), model.pay(which, kind, beasts));
            }
        }
    }

    private void tellHurt() {
        int by = someone();
        int of = someone();
        long name = Due.name(NAMES[upTo(3)]);
        int day = upTo(now());
        int place = upTo(3);
        boolean night = random.nextBoolean();
        alike("hurt", moot.hurt(by, of, name, day, place, night), model.hurt(by, of, name, day, place, night));
    }

    private void tellTruce(int day) {
        int a = upTo(2);
        int b = upTo(2);
        int to = day + upTo(4);
        alike("truce", moot.truce(a, b, day, to), model.truce(a, b, day, to));
    }

    /** LAWS and PEOPLE that come when CASES are there already, and may be JUDGED. */
    private void tellLateComer() {
        if (upTo(3) > 0) {
            tellPerson();
        } else if (calls < CALLS - 60) {
            tellLaw(upTo(2), upTo(now() + 1));
        }
    }

    private void swear(int which) {
        int helpers = upTo(2) == 0 ? 0 : 1 << someone() | 1 << someone();
        alike("oath", moot.oath(which, helpers), model.oath(which, helpers));
    }

    private void ask() {
        int which = someCase();
        int who = someone();
        int day = upTo(now() + 1);
        switch (upTo(9)) {
            case 0, 1 -> alike("sum", moot.sum(which, day), model.sum(which, day));
            case 2, 3 -> alike("pays", moot.pays(which, who, day), model.pays(which, who, day));
            case 4, 5 -> alike("has", moot.has(which, who, day), model.has(which, who, day));
            case 6 -> {
                int what = upTo(5);
                alike("of", moot.of(which, what), model.of(which, what));
            }
            default -> alike("owed", moot.owed(which, day), model.owed(which, day));
        }
    }
}
