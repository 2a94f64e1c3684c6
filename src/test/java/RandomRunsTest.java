import java.util.Random;

/** Random runs of 512 calls on the class and on the slow reckoning, which must answer alike. */
public final class RandomRunsTest {
    private static final int RUNS = 600;
    private static final int CALLS = 512;
    private static final int[] ODD = {-1, -2, 4, 20, 100000, 100001, Integer.MAX_VALUE, Integer.MIN_VALUE};
    private static final String[] NAMES = {"a", "hand", "eye", "abcdefgh", "rank"};

    private final Random random;
    private final BloodPrice moot = new BloodPrice();
    private final Model model = new Model();
    private final String run;

    private RandomRunsTest(int seed) {
        random = new Random(seed);
        run = "run " + seed + ": ";
    }

    public static void main(String[] args) {
        for (int seed = 0; seed < RUNS; seed++) {
            RandomRunsTest one = new RandomRunsTest(seed);
            // Texts take many calls; few of them leave more calls to what is built on them.
            int texts = seed % 3 == 0 ? 30 : 4;
            int calls = 0;
            for (int i = 0; i < texts && calls < CALLS - 40; i++) {
                calls += one.tellText();
            }
            for (; calls < CALLS; calls++) {
                one.call();
            }
        }
        Due.finish();
    }

    private int upTo(int most) {
        return random.nextInt(most + 1);
    }

    private int odd(int usual) {
        return upTo(40) == 0 ? ODD[upTo(ODD.length - 1)] : usual;
    }

    private void alike(String call, long got, long due) {
        Due.is(run + call, got, due);
    }

    private void alike(String call, boolean got, boolean due) {
        Due.is(run + call, got, due);
    }

    private int tellText() {
        String text = upTo(2) == 0 ? spoiled(text()) : text();
        text = text.length() > 700 ? text.substring(0, 700) : text;
        int calls = 0;
        for (int at = 0; at < text.length(); at += 20) {
            int[] n = Due.twentyBytes(text, at);
            alike("feed", moot.feed(n[0], n[1], n[2], n[3], n[4]), model.feed(n));
            calls++;
        }
        alike("end", moot.end(text.length()), model.end(text.length()));
        int folk = odd(upTo(1));
        int day = odd(upTo(60));
        alike("law of \"" + text + "\"", moot.law(folk, day), model.law(folk, day));
        alike("fault(0) of \"" + text + "\"", moot.fault(0), model.fault(0));
        alike("fault(1) of \"" + text + "\"", moot.fault(1), model.fault(1));
        moot.end(0);
        model.end(0);
        return calls + 5;
    }

    private String text() {
        StringBuilder text = new StringBuilder();
        for (int i = upTo(4); i > 0; i--) {
            text.append("hurt ").append(NAMES[upTo(3)]).append(upTo(20) == 0 ? upTo(3) : "").append(' ')
                .append(number(100000)).append(';');
        }
        int whens = upTo(30) == 0 ? 17 : upTo(5);
        for (int i = 0; i < whens; i++) {
            text.append("when ").append(whens > 16 ? "1" : condition(upTo(30) == 0 ? 7 : 3)).append(" do ");
            text.append(new String[] {"double", "half", "add " + number(100000), "less " + number(100000)}[upTo(3)]);
            text.append(';').append(upTo(2) == 0 ? "\n" : "");
        }
        if (upTo(2) > 0) {
            text.append("share ").append(upTo(3)).append(' ').append(upTo(3)).append(' ').append(upTo(3)).append(' ')
                .append(odd(upTo(3))).append(';');
        }
        if (upTo(2) > 0) {
            text.append("need ").append(upTo(3)).append(" rank ").append(upTo(2)).append(';');
        }
        if (upTo(2) > 0) {
            text.append("terms ").append(number(6)).append(" days ").append(number(20)).append(';');
        }
        return text.toString();
    }

    private String number(int most) {
        if (upTo(60) == 0) {
            return new String[] {"0", "100001", "1234567", "000001", "999999", "5a"}[upTo(5)];
        }
        return Integer.toString(1 + random.nextInt(upTo(1) == 0 ? Math.min(most, 90) : most));
    }

    private String condition(int depth) {
        int form = depth == 0 ? 6 : upTo(8);
        if (form < 2) {
            return condition(depth - 1) + (form == 0 ? " or " : " and ") + condition(depth - 1);
        }
        if (form < 4) {
            return form == 2 ? "not " + condition(depth - 1) : "(" + condition(depth - 1) + ")";
        }
        return form == 4 ? operand() : operand() + " < > = ".substring(upTo(2) * 2).substring(0, 3) + operand();
    }

    private String operand() {
        return upTo(3) == 0 ? Integer.toString(upTo(5))
            : new String[] {"rank", "other", "place", "night", "kin", "truce", "sum"}[upTo(6)];
    }

    private String spoiled(String text) {
        StringBuilder spoiled = new StringBuilder(text);
        for (int i = upTo(2); i >= 0 && spoiled.length() > 0; i--) {
            int at = upTo(spoiled.length() - 1);
            switch (upTo(3)) {
                case 0 -> spoiled.deleteCharAt(at);
                case 1 -> spoiled.insert(at, "ab15;()<>= \nA\t\0".charAt(upTo(14)));
                case 2 -> spoiled.setLength(at);
                default -> spoiled.insert(at, text.substring(upTo(text.length() / 2), text.length() / 2 + 1));
            }
        }
        return spoiled.toString();
    }

    private void call() {
        if (model.about(1) < 8) {
            int[] p = {odd(upTo(1)), odd(upTo(model.about(1)) - 1), odd(upTo(model.about(1)) - 1)};
            alike("person", moot.person(p[0], p[1], p[2]), model.person(p[0], p[1], p[2]));
        } else if (upTo(2) == 0) {
            tell();
        } else {
            ask();
        }
    }

    private void tell() {
        int a = odd(upTo(9));
        int b = odd(upTo(9));
        int small = odd(upTo(4));
        int day = odd(upTo(60));
        switch (upTo(11)) {
            case 0 -> alike("person", moot.person(small, a, b), model.person(small, a, b));
            case 1, 2 -> alike("rank", moot.rank(a, small, day), model.rank(a, small, day));
            case 3 -> alike("dead", moot.dead(a, day), model.dead(a, day));
            case 4 -> {
                int other = upTo(1);
                int to = day + upTo(9) - 1;
                alike("truce", moot.truce(small, other, day, to), model.truce(small, other, day, to));
            }
            case 5 -> alike("later", moot.later(small), model.later(small));
            case 6, 7 -> {
                long name = upTo(30) == 0 ? random.nextLong() : Due.name(NAMES[upTo(4)]);
                int on = odd(upTo(Math.max(1, model.about(0))));
                boolean night = random.nextBoolean();
                alike("hurt", moot.hurt(a, b, name, on, small, night), model.hurt(a, b, name, on, small, night));
            }
            case 8 -> {
                int helpers = upTo(10) == 0 ? random.nextInt() : 1 << upTo(9) | 1 << upTo(9) | 1 << upTo(9);
                alike("oath", moot.oath(a, helpers), model.oath(a, helpers));
            }
            case 9 -> alike("judge", moot.judge(a), model.judge(a));
            case 10 -> alike("rate", moot.rate(small, day), model.rate(small, day));
            default -> alike("pay", moot.pay(a, small, day), model.pay(a, small, day));
        }
    }

    private void ask() {
        int a = odd(upTo(9));
        int b = odd(upTo(9));
        int day = odd(upTo(Math.max(1, model.about(0) + 1)));
        int k = odd(upTo(Math.max(1, model.about(0) + 1)));
        switch (upTo(9)) {
            case 0 -> alike("lawOn", moot.lawOn(a % 5, day), model.lawOn(a % 5, day));
            case 1 -> alike("degree", moot.degree(a, b), model.degree(a, b));
            case 2 -> alike("ranked", moot.ranked(a, day, k), model.ranked(a, day, k));
            case 3 -> alike("sum", moot.sum(a, k), model.sum(a, k));
            case 4 -> alike("of", moot.of(a, b), model.of(a, b));
            case 5 -> alike("pays", moot.pays(a, b, k), model.pays(a, b, k));
            case 6 -> alike("has", moot.has(a, b, k), model.has(a, b, k));
            case 7 -> {
                int what = odd(upTo(15));
                alike("about", moot.about(what), model.about(what));
            }
            default -> alike("owed", moot.owed(a, day), model.owed(a, day));
        }
    }
}
