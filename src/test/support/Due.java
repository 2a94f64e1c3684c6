/** Counts the answers that are not as due, and has the ways of feeding a moot that all tests need. */
final class Due {
    /** The words that are no NAMES. */
    static final String[] NO_NAMES = ("hurt when do double half add less share need rank terms days or and not"
        + " other place night kin truce sum").split(" ");

    private static int asked;
    private static int wrong;

    private Due() {
    }

    static void is(String call, long got, long want) {
        asked++;
        if (got != want) {
            wrong++;
            System.out.println(call + " answered " + got + ", due is " + want);
        }
    }

    static void is(String call, boolean got, boolean want) {
        is(call, got ? 1 : 0, want ? 1 : 0);
    }

    static void finish() {
        System.out.println(asked + " answers asked, " + wrong + " not as due");
        if (wrong != 0 || asked == 0) {
            System.exit(1);
        }
    }

    /** The letters of a text as a long, as hurt() takes a NAME. */
    static long name(String text) {
        long name = 0;
        for (char c : text.toCharArray()) {
            name = name << 8 | c;
        }
        return name;
    }

    /** Twenty bytes of a text as feed() takes them, with blanks behind its end. */
    static int[] twentyBytes(String text, int from) {
        int[] n = new int[5];
        for (int i = 0; i < 20; i++) {
            int c = from + i < text.length() ? text.charAt(from + i) : ' ';
            n[i / 4] = n[i / 4] << 8 | c;
        }
        return n;
    }

    /** Puts a text on an empty tape, byte by byte as its characters are. */
    static void write(BloodPrice moot, String text) {
        for (int at = 0; at < text.length(); at += 20) {
            int[] n = twentyBytes(text, at);
            moot.feed(n[0], n[1], n[2], n[3], n[4]);
        }
        is("end(" + text.length() + ")", moot.end(text.length()), text.length());
    }

    static int tell(BloodPrice moot, int folk, int day, String text) {
        write(moot, text);
        return moot.law(folk, day);
    }

    static void good(String text) {
        fault(text, 0, BloodPrice.NONE);
    }

    /** A text's FAULT and its place, on a new object. */
    static void fault(String text, int fault, int place) {
        BloodPrice moot = new BloodPrice();
        String law = "law of \"" + text + "\"";
        is(law, tell(moot, 0, 0, text), fault == 0 ? 1 : BloodPrice.NONE);
        is(law + ", fault(0)", moot.fault(0), fault);
        is(law + ", fault(1)", moot.fault(1), place);
        is(law + ", about(10)", moot.about(10), fault == 0 ? 1 : 0);
        is(law + ", about(7)", moot.about(7), 0);
    }

    /** What a hurt "hand" costs by a text, done by a PERSON of RANK 1 to a stranger of RANK 2, at place 3, by night. */
    static int price(String text) {
        BloodPrice moot = new BloodPrice();
        is("law of \"" + text + "\"", tell(moot, 0, 0, text), 1);
        moot.person(0, BloodPrice.NONE, BloodPrice.NONE);
        moot.person(0, BloodPrice.NONE, BloodPrice.NONE);
        moot.rank(0, 1, 0);
        moot.rank(1, 2, 0);
        moot.hurt(0, 1, name("hand"), 0, 3, true);
        return moot.sum(0, 0);
    }
}
