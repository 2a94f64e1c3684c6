/** The bounds of a LAW's text in "Terms": for each the last that is still good, and the first that is a FAULT. */
public final class TextBoundsTest {
    private static final String HURTS_12 = "hurt a 1;hurt b 1;hurt c 1;hurt d 1;hurt e 1;hurt f 1;"
        + "hurt g 1;hurt h 1;hurt i 1;hurt j 1;hurt k 1;hurt l 1;";

    public static void main(String[] args) {
        textOf700Bytes();
        wordsOf8Letters();
        numbersOf6Digits();
        noLetterBehindANumber();
        everyByte();
        blanksPartTokensOrNot();
        noNames();
        twelveHurts();
        sixteenWhens();
        sixtySums();
        onceEach();
        whatIsNotTold();
        numberOfAHurt();
        numbersOfAShare();
        numbersOfANeed();
        numbersOfTerms();
        numbersOfDeeds();
        numbersInAnE();
        parenthesesWithinSix();
        notsWithinSix();
        bothWithinSix();
        Due.finish();
    }

    private static void textOf700Bytes() {
        Due.good("");
        String text = "hurt hand 7;" + " ".repeat(700 - 24) + "hurt foot 5;";
        Due.good(text);
        Due.fault(text.substring(0, 699), 2, 699);
        Due.fault(text.substring(0, 699) + " ", 2, 700);
        Due.fault(text.substring(0, 699) + "A", 1, 699);
        Due.fault(";".repeat(700), 2, 0);
        Due.fault("a".repeat(700), 1, 0);
        Due.fault("1".repeat(700), 1, 0);
        Due.fault("when " + "(".repeat(695), 2, 11);
        Due.fault("when " + "not ".repeat(173), 2, 29);
        Due.good("\n".repeat(700));
    }

    private static void wordsOf8Letters() {
        Due.good("hurt abcdefgh 5;");
        Due.fault("hurt abcdefghi 5;", 1, 5);
        Due.good("hurt a 5;");
        Due.fault("abcdefgh", 2, 0);
        Due.fault("abcdefghi", 1, 0);
        Due.fault("hurt a 5;abcdefgh", 2, 9);
        Due.fault("hurt a 5;abcdefghi", 1, 9);
        Due.is("eight letters are the name", Due.price("hurt handhand 9;hurt hand 5;"), 5);
        BloodPrice moot = new BloodPrice();
        Due.is("law", Due.tell(moot, 0, 0, "hurt zzzzzzzz 9;hurt zzzzzzz 5;hurt z 3;"), 1);
        moot.person(0, -1, -1);
        moot.person(0, -1, -1);
        moot.hurt(0, 1, Due.name("zzzzzzzz"), 0, 0, false);
        moot.hurt(0, 1, Due.name("zzzzzzz"), 0, 0, false);
        moot.hurt(0, 1, Due.name("z"), 0, 0, false);
        Due.is("sum(0)", moot.sum(0, 0), 9);
        Due.is("sum(1)", moot.sum(1, 0), 5);
        Due.is("sum(2)", moot.sum(2, 0), 3);
    }

    private static void numbersOf6Digits() {
        Due.is("six digits", Due.price("hurt hand 100000;"), 100000);
        Due.is("six digits", Due.price("hurt hand 000009;"), 9);
        Due.is("six digits", Due.price("hurt hand 000000;"), 0);
        Due.is("one digit", Due.price("hurt hand 9;"), 9);
        Due.fault("hurt hand 0000009;", 1, 10);
        Due.fault("hurt hand 1000000;", 1, 10);
        Due.good("when 999999 do half;");
        Due.fault("when 1000000 do half;", 1, 5);
        Due.good("when sum < 999999 do half;");
        Due.fault("when sum < 9999999 do half;", 1, 11);
    }

    private static void noLetterBehindANumber() {
        Due.good("hurt a5;");
        Due.fault("hurt a 5a;", 1, 7);
        Due.fault("hurt a5b;", 1, 6);
        Due.fault("hurt a 5z", 1, 7);
        Due.good("when(1)do half;");
        Due.good("when 1 do half;");
        Due.good("when 1\ndo half;");
        Due.fault("when 1do half;", 1, 5);
        Due.fault("when rank<1do half;", 1, 10);
        Due.good("when rank<1 do half;");
        Due.good("when 1<rank do half;");
        Due.fault("need 1rank 0;", 1, 5);
        Due.fault("terms 1days 1;", 1, 6);
        Due.good("need1 rank0;terms1 days1;share1 0 0 0;");
        Due.fault("hurt a 100001b;", 1, 7);
        Due.fault("hurt a 1234567b;", 1, 7);
    }

    /** Behind a whole line a blank is good; a TOKEN that can't begin a line is FAULT 2; any other byte is FAULT 1. */
    private static void everyByte() {
        for (int c = 0; c < 256; c++) {
            boolean letter = c >= 'a' && c <= 'z';
            boolean digit = c >= '0' && c <= '9';
            int due = c == 32 || c == 10 ? 0 : letter || digit || c < 128 && ";()<>=".indexOf(c) >= 0 ? 2 : 1;
            Due.fault("hurt a 5;" + (char) c, due, due == 0 ? -1 : 9);
        }
    }

    private static void blanksPartTokensOrNot() {
        Due.good("hurt a 5;hurt b 6;");
        Due.good("\n hurt \n a \n 5 \n ; \n");
        Due.fault("hurta 5;", 2, 0);
        Due.fault("hurt a 5 5;", 2, 9);
        Due.fault("hu rt a 5;", 2, 0);
        Due.good("when((rank)or(other))do half;");
        Due.fault("when(rank)orother do half;", 2, 10);
        Due.fault("whenrank do half;", 2, 0);
        Due.good("when not(not 1)do add5;");
        Due.fault("when notnot 1 do half;", 2, 5);
    }

    private static void noNames() {
        for (String word : Due.NO_NAMES) {
            Due.fault("hurt " + word + " 5;", 2, 5);
            Due.good("hurt " + word + "s 5;");
            Due.good("hurt s" + word + " 5;");
        }
    }

    private static void twelveHurts() {
        Due.good(HURTS_12);
        Due.good(HURTS_12 + "when 1 do half;share 1 0 0 0;");
        Due.fault(HURTS_12 + "hurt m 1;", 2, HURTS_12.length());
        Due.fault(HURTS_12 + " hurt", 2, HURTS_12.length() + 1);
        Due.fault(HURTS_12 + "when 1 do half; hurt m 1;", 2, HURTS_12.length() + 16);
        Due.fault(HURTS_12 + "hurt l 1;", 2, HURTS_12.length());
        Due.fault(HURTS_12.replace("hurt l 1;", "hurt k 1;"), 3, HURTS_12.length() - 4);
        BloodPrice moot = new BloodPrice();
        Due.is("law", Due.tell(moot, 0, 0, HURTS_12.replace("l 1", "l 77")), 1);
        moot.person(0, -1, -1);
        moot.person(0, -1, -1);
        moot.hurt(0, 1, 'l', 0, 0, false);
        moot.hurt(0, 1, 'a', 0, 0, false);
        Due.is("the twelfth", moot.sum(0, 0), 77);
        Due.is("the first", moot.sum(1, 0), 1);
    }

    private static void sixteenWhens() {
        String line = "when 1 do add 1;";
        String whens = line.repeat(16);
        Due.good(whens);
        Due.is("all sixteen hold", Due.price(whens + "hurt hand 5;"), 21);
        Due.is("fifteen hold", Due.price(line.repeat(15) + "hurt hand 5;"), 20);
        Due.fault(whens + line, 2, whens.length());
        Due.fault(whens + "when", 2, whens.length());
        Due.fault(whens + "hurt hand 5; " + line, 2, whens.length() + 13);
    }

    private static void sixtySums() {
        String sixty = "when " + "0 or ".repeat(59) + "1 do add 1;";
        Due.is("sixty in one e", Due.price(sixty + "hurt hand 5;"), 6);
        Due.fault("when " + "0 or ".repeat(60) + "1 do add 1;", 2, 5 + 300);
        Due.fault(sixty + "when 1 do half;", 2, sixty.length() + 5);
        Due.fault(sixty + "when ((kin)) do half;", 2, sixty.length() + 7);
        Due.fault(sixty + "when not kin do half;", 2, sixty.length() + 9);
        Due.fault(sixty + "when do half;", 2, sixty.length() + 5);
        Due.fault(sixty + "when", 2, sixty.length() + 4);
        String pairs = "when 1<2 and 3>2 and 3=3 and 1<2 do add 1;".repeat(7);
        Due.good(pairs + "when 1 < 2 and 3 > 2 do add 1;");
        Due.fault(pairs + "when 1 < 2 and 3 > 2 and 4 do add 1;", 2, pairs.length() + 25);
        Due.fault(pairs + "when 1 and 2 < 3 and 4 > 5 do add 1;", 2, pairs.length() + 25);
        Due.good(pairs + "when 1 and 2 < 3 and 4 do add 1; hurt hand 1; share 1 2 3 4; need 1 rank 1;");
        Due.is("a 60th sum is of use", Due.price("when " + "1 and ".repeat(59) + "0 do add 1; hurt hand 5;"), 5);
    }

    private static void onceEach() {
        String[] lines = {"share 1 2 3 4;", "need 1 rank 1;", "terms 2 days 3;"};
        String all = lines[0] + lines[1] + lines[2];
        Due.good(all);
        for (String line : lines) {
            Due.good(line);
            Due.fault(line + line, 2, line.length());
            Due.fault(line + " " + line, 2, line.length() + 1);
            Due.fault(all + "hurt a 5;" + line, 2, all.length() + 9);
            Due.fault(line + line.substring(0, line.indexOf(' ')), 2, line.length());
        }
    }

    private static void whatIsNotTold() {
        alike("share 1 0 0 0;need 0 rank 0;terms 1 days 1;");
        alike("");
    }

    /** A text that tells what holds where nothing is told: one child doesn't share, no helper is needed, one TERM. */
    private static void alike(String text) {
        BloodPrice moot = new BloodPrice();
        Due.is("law", Due.tell(moot, 0, 0, "hurt hand 101;" + text), 1);
        moot.person(0, -1, -1);
        moot.person(0, 0, -1);
        moot.person(0, -1, -1);
        moot.hurt(0, 2, Twins.HAND, 0, 0, false);
        moot.hurt(0, 2, Twins.HAND, 0, 0, false);
        Due.is("pays", moot.pays(0, 0, 0), 101);
        Due.is("a child pays", moot.pays(0, 1, 0), 0);
        Due.is("has", moot.has(0, 2, 0), 101);
        Due.is("oath", moot.oath(1, 0), 1);
        Due.is("judge", moot.judge(0), 101);
        moot.later(2);
        Due.is("owed on 1", moot.owed(0, 1), 101);
        Due.is("owed on 2", moot.owed(0, 2), 202);
    }

    private static void numberOfAHurt() {
        Due.is("0", Due.price("hurt hand 0;"), 0);
        Due.is("100000", Due.price("hurt hand 100000;"), 100000);
        Due.fault("hurt hand 100001;", 4, 10);
        Due.fault("hurt hand 999999;", 4, 10);
    }

    private static void numbersOfAShare() {
        for (int at = 0; at < 4; at++) {
            int place = 6 + 2 * at;
            Due.good(share("0", "1", at));
            Due.good(share("0", "100", at));
            Due.fault(share("0", "101", at), 4, place);
            Due.fault(share("1", "101", at), 4, place);
            Due.fault(share("1", "999999", at), 4, place);
            Due.good(share("1", "0", at));
        }
        Due.good("share 100 100 100 100;");
        Due.fault("share 0 0 0 0;", 4, 12);
        Due.fault("share 000 00 0 000000;", 4, 15);
        Due.fault("share 0 0 0 0", 4, 12);
        Due.fault("share 0 0 0 101;", 4, 12);
    }

    private static String share(String others, String one, int at) {
        StringBuilder text = new StringBuilder("share");
        for (int i = 0; i < 4; i++) {
            text.append(' ').append(i == at ? one : others);
        }
        return text.append(';').toString();
    }

    private static void numbersOfANeed() {
        Due.good("need 0 rank 0;");
        Due.good("need 12 rank 3;");
        Due.fault("need 13 rank 3;", 4, 5);
        Due.fault("need 999999 rank 3;", 4, 5);
        Due.fault("need 12 rank 4;", 4, 13);
        Due.fault("need 0 rank 999999;", 4, 12);
    }

    private static void numbersOfTerms() {
        Due.fault("terms 0 days 1;", 4, 6);
        Due.good("terms 1 days 1;");
        Due.good("terms 6 days 400;");
        Due.fault("terms 7 days 400;", 4, 6);
        Due.fault("terms 999999 days 400;", 4, 6);
        Due.fault("terms 1 days 0;", 4, 13);
        Due.fault("terms 6 days 401;", 4, 13);
        Due.fault("terms 6 days 999999;", 4, 13);
    }

    private static void numbersOfDeeds() {
        Due.is("add 0", Due.price("hurt hand 5; when 1 do add 0;"), 5);
        Due.is("add 100000", Due.price("hurt hand 5; when 1 do add 100000;"), 100005);
        Due.fault("when 1 do add 100001;", 4, 14);
        Due.fault("when 1 do add 999999;", 4, 14);
        Due.is("less 0", Due.price("hurt hand 5; when 1 do less 0;"), 5);
        Due.is("less 100000", Due.price("hurt hand 100000; when 1 do add 5; when 1 do less 100000;"), 5);
        Due.fault("when 1 do less 100001;", 4, 15);
        Due.fault("when 1 do less 999999;", 4, 15);
    }

    private static void numbersInAnE() {
        Due.is("0", Due.price("hurt hand 5; when 0 do double;"), 5);
        Due.is("1", Due.price("hurt hand 5; when 1 do double;"), 10);
        Due.is("999999", Due.price("hurt hand 5; when 999999 do double;"), 10);
        Due.is("999999", Due.price("hurt hand 5; when 999999 > 999998 do double;"), 10);
        Due.is("999999", Due.price("hurt hand 5; when 999999 > 999999 do double;"), 5);
    }

    private static void parenthesesWithinSix() {
        Due.is("five", Due.price("hurt hand 5; when (((((1))))) do double;"), 10);
        Due.fault("when ((((((1)))))) do double;", 2, 11);
        Due.fault("when (((((( 1)))))) do double;", 2, 12);
        Due.fault("when (((((((1))))))) do double;", 2, 11);
        Due.fault("when ((((((", 2, 11);
        for (String next : new String[] {"do", "and 1", "or 1", ")))))) do", "not", "(", ";"}) {
            Due.fault("when ((((((" + next + " double;", 2, 11);
        }
        Due.fault("when (((((()", 2, 11);
        Due.good("when (((((1))))) and (((((1))))) or (((((1))))) do double;");
        Due.fault("when (((((1))))) and ((((((1)))))) do double;", 2, 27);
        Due.fault("when (((((1 or (1)))))) do double;", 2, 16);
        Due.fault("when (((((1 and 1 or 1 and (1)))))) do double;", 2, 28);
        Due.good("when ((((1 or (1) or (1))))) do double;");
    }

    private static void notsWithinSix() {
        Due.is("five", Due.price("hurt hand 5; when not not not not not 0 do double;"), 10);
        Due.fault("when not not not not not not 1 do double;", 2, 29);
        Due.fault("when not not not not not not not 1 do double;", 2, 29);
        Due.fault("when not not not not not not", 2, 28);
        for (String next : new String[] {"do", "and 1 do", "or 1 do", ")", "not", "(", ";"}) {
            Due.fault("when not not not not not not " + next + " double;", 2, 29);
        }
        Due.good("when not not not not not 1 and not not not not not 1 do double;");
        Due.fault("when 1 or not not not not not not 1 do double;", 2, 34);
    }

    private static void bothWithinSix() {
        String open = "0 or 1 and (".repeat(5) + "0 or 1 and ";
        Due.is("the most at once", Due.price("hurt hand 5; when " + open + "2 = 2))))) do double;"), 10);
        Due.is("the most at once", Due.price("hurt hand 5; when " + open + "2 = 3))))) do double;"), 5);
        Due.is("five", Due.price("hurt hand 5; when not (not (not 0)) do double;"), 10);
        Due.fault("when not (not (not (1))) do double;", 2, 20);
        Due.fault("when (not (not (not 1))) do double;", 2, 20);
        Due.good("when (((not not 1))) do double;");
        Due.fault("when (((not not not 1))) do double;", 2, 20);
        Due.fault("when not not not (((1))) do double;", 2, 20);
        Due.good("when not not not ((1)) do double;");
    }
}
