/** FAULTS: the first by its place, at one place the least, and where each of them is. */
public final class FaultPlacesTest {
    private static final String HURTS_12 = "hurt a 1;hurt b 1;hurt c 1;hurt d 1;hurt e 1;hurt f 1;"
        + "hurt g 1;hurt h 1;hurt i 1;hurt j 1;hurt k 1;hurt l 1;";
    private static final String SUMS_60 = "when " + "1 or ".repeat(59) + "1 do half;";

    public static void main(String[] args) {
        theFirstByItsPlace();
        oneIsTheLeast();
        twoIsLessThanThreeAndFour();
        theEnd();
        behindBlanks();
        whatCannotStandInAHurt();
        whatCannotStandInAWhen();
        whatCannotStandInAnE();
        whatCannotStandInAShare();
        whatCannotStandInANeed();
        whatCannotStandInTerms();
        aNameThatIsTold();
        aNumberThatCannotBe();
        ofTheLatestLaw();
        Due.finish();
    }

    private static void theFirstByItsPlace() {
        Due.fault("hurt a 100001; hurt a 5; A", 4, 7);
        Due.fault("hurt a 5; hurt a 100001; A", 3, 15);
        Due.fault("hurt a 5; hurt b 100001; A", 4, 17);
        Due.fault("hurt a 5; hurt ; A", 2, 15);
        Due.fault("A hurt a 100001;", 1, 0);
        Due.fault("hurt a 5; B hurt a 7; C", 1, 10);
        Due.fault("share 0 0 0 0; share 1 2 3 4;", 4, 12);
        Due.fault("share 1 2 3 4; share 0 0 0 0;", 2, 15);
        Due.fault("terms 7 days 401;", 4, 6);
        Due.fault("terms 6 days 401", 4, 13);
        Due.fault("need 13 days 4;", 4, 5);
        Due.fault("need 12 days 4;", 2, 8);
    }

    private static void oneIsTheLeast() {
        Due.fault(HURTS_12 + "Hurt m 1;", 1, HURTS_12.length());
        Due.fault(HURTS_12 + "hurtm0hurt 1;", 2, HURTS_12.length());
        Due.fault(SUMS_60 + "when & do half;", 1, SUMS_60.length() + 5);
        Due.fault(SUMS_60 + "when 1234567 do half;", 1, SUMS_60.length() + 5);
        Due.fault("when not not not not not not 1a do half;", 1, 29);
        Due.fault("when ((((((A)))))) do half;", 1, 11);
        Due.fault("hurt a 1000000;", 1, 7);
        Due.fault("hurt a 100001a;", 1, 7);
        Due.fault("share 0 0 0 0a;", 1, 12);
        Due.fault("hurt a 5", 2, 8);
        Due.fault("hurt a 5?", 1, 8);
        Due.fault("hurt ranks 5;hurt ranksranks 5;", 1, 18);
    }

    private static void twoIsLessThanThreeAndFour() {
        Due.fault("hurt 100001 a;", 2, 5);
        Due.fault("100001", 2, 0);
        Due.fault("hurt a 5; a", 2, 10);
        Due.fault(HURTS_12 + "hurt a 100001;", 2, HURTS_12.length());
        Due.fault("need 1 100001;", 2, 7);
        Due.fault("hurt a 5 100001;", 2, 9);
        Due.fault("share 1 1 1 1 101;", 2, 14);
    }

    private static void theEnd() {
        String[] texts = {"hurt", "hurt a", "hurt a 5", "when", "when 1", "when 1 <", "when 1 and", "when 1 or",
            "when not", "when (", "when (1", "when (1)", "when 1 do", "when 1 do half", "when 1 do add",
            "when 1 do less 5", "share", "share 1", "share 1 1", "share 1 1 1", "share 1 1 1 1", "need", "need 1",
            "need 1 rank", "need 1 rank 1", "terms", "terms 1", "terms 1 days", "terms 1 days 1"};
        for (String text : texts) {
            Due.fault(text, 2, text.length());
            Due.fault(text + " \n ", 2, text.length() + 3);
            Due.fault("hurt z 9;" + text, 2, 9 + text.length());
        }
    }

    private static void behindBlanks() {
        Due.fault("   ;", 2, 3);
        Due.fault(" \n\n A", 1, 4);
        Due.fault("hurt  \n  5", 2, 9);
        Due.fault("hurt a\n\n100001", 4, 8);
        Due.fault("hurt a 1;hurt\n   a", 3, 17);
        Due.fault("share 1 0 0 0;\n\nshare", 2, 16);
        Due.fault("share 0 0 0\n\n\n0;", 4, 14);
        Due.fault(SUMS_60 + "when \n 1", 2, SUMS_60.length() + 7);
        Due.fault("when ((((((\n\n1", 2, 13);
    }

    private static void whatCannotStandInAHurt() {
        for (String wrong : new String[] {"5", ";", "(", "<", "hurt", "sum"}) {
            Due.fault("hurt " + wrong, 2, 5);
        }
        for (String wrong : new String[] {"b", ";", ")", "=", "when"}) {
            Due.fault("hurt a " + wrong, 2, 7);
        }
        for (String wrong : new String[] {"b", "5", "(", ">", "hurt"}) {
            Due.fault("hurt a 5 " + wrong, 2, 9);
        }
    }

    private static void whatCannotStandInAWhen() {
        for (String wrong : new String[] {"double", ";", "5", "kin", "(", ")", "not", "hand", "when"}) {
            Due.fault("when 1 " + wrong, 2, 7);
        }
        for (String wrong : new String[] {"do", ";", "5", "kin", "(", "hand", "share"}) {
            Due.fault("when 1 do " + wrong, 2, 10);
        }
        for (String wrong : new String[] {"5", "kin", "(", "and", "when"}) {
            Due.fault("when 1 do double " + wrong, 2, 17);
            Due.fault("when 1 do half " + wrong, 2, 15);
            Due.fault("when 1 do add 5 " + wrong, 2, 16);
            Due.fault("when 1 do less 5 " + wrong, 2, 17);
        }
        for (String wrong : new String[] {";", "kin", "(", "and", "when"}) {
            Due.fault("when 1 do add " + wrong, 2, 14);
            Due.fault("when 1 do less " + wrong, 2, 15);
        }
    }

    private static void whatCannotStandInAnE() {
        String[] noOperands = {";", ")", "<", ">", "=", "and", "or", "do", "hand", "hurt", "when", "double", "half",
            "add", "less", "share", "need", "terms", "days"};
        for (String wrong : noOperands) {
            Due.fault("when " + wrong, 2, 5);
            Due.fault("when 1 and " + wrong, 2, 11);
            Due.fault("when 1 or " + wrong, 2, 10);
            Due.fault("when not " + wrong, 2, 9);
            Due.fault("when (" + wrong, 2, 6);
            Due.fault("when 1 < " + wrong, 2, 9);
        }
        for (String sign : new String[] {"<", ">", "="}) {
            Due.fault("when 1 " + sign + " not 1", 2, 9);
            Due.fault("when 1 " + sign + " (1)", 2, 9);
            Due.fault("when 1 " + sign + " 1 " + sign + " 1", 2, 11);
            Due.fault("when (1) " + sign + " 1", 2, 9);
            Due.good("when not 1 " + sign + " 1 do half;");
        }
        Due.fault("when (1 do half;", 2, 8);
        Due.fault("when (1;", 2, 7);
        Due.fault("when (1 or 1 2)", 2, 13);
        Due.fault("when (1)) do half;", 2, 8);
        for (String word : new String[] {"rank", "other", "place", "night", "kin", "truce", "sum"}) {
            Due.good("when " + word + " do half;");
            Due.good("when 1 < " + word + " do half;");
        }
    }

    private static void whatCannotStandInAShare() {
        for (String wrong : new String[] {"a", ";", "(", "<", "sum", "rank"}) {
            Due.fault("share " + wrong, 2, 6);
            Due.fault("share 1 " + wrong, 2, 8);
            Due.fault("share 1 1 " + wrong, 2, 10);
            Due.fault("share 1 1 1 " + wrong, 2, 12);
            Due.fault("share 0 0 0 " + wrong, 2, 12);
        }
        Due.fault("share 1 1 1 1 1;", 2, 14);
        Due.fault("share 1 1 1 1 share", 2, 14);
    }

    private static void whatCannotStandInANeed() {
        for (String wrong : new String[] {"a", ";", "(", "<", "sum", "rank"}) {
            Due.fault("need " + wrong, 2, 5);
            Due.fault("need 1 rank " + wrong, 2, 12);
        }
        for (String wrong : new String[] {"a", ";", "1", "<", "sum", "days"}) {
            Due.fault("need 1 " + wrong, 2, 7);
        }
        Due.fault("need 1 rank 1 1", 2, 14);
        Due.fault("need 1 rank 1 need", 2, 14);
    }

    private static void whatCannotStandInTerms() {
        for (String wrong : new String[] {"a", ";", "(", "<", "sum", "days"}) {
            Due.fault("terms " + wrong, 2, 6);
            Due.fault("terms 1 days " + wrong, 2, 13);
        }
        for (String wrong : new String[] {"a", ";", "1", "<", "sum", "rank"}) {
            Due.fault("terms 1 " + wrong, 2, 8);
        }
        Due.fault("terms 1 days 1 1", 2, 15);
        Due.fault("terms 1 days 1 terms", 2, 15);
    }

    private static void aNameThatIsTold() {
        Due.fault("hurt a 1;hurt a 1;", 3, 14);
        Due.fault("hurt a 1;hurt b 1;hurt b", 3, 23);
        Due.fault("hurt a 1;hurt b 1;hurt a", 3, 23);
        Due.fault("hurt abcdefgh 1;hurt abcdefgh 1;", 3, 21);
        Due.good("hurt abcdefgh 1;hurt abcdefg 1;hurt bcdefgh 1;hurt a 1;hurt h 1;");
        String twelve = HURTS_12.replace("hurt l", "hurt a");
        Due.fault(twelve, 3, HURTS_12.length() - 4);
    }

    private static void aNumberThatCannotBe() {
        Due.fault("hurt a 100001", 4, 7);
        Due.fault("hurt a100001", 4, 6);
        Due.fault("when 1 do add 100001", 4, 14);
        Due.fault("when 1 do less 100001", 4, 15);
        Due.fault("share 101", 4, 6);
        Due.fault("share 1 101", 4, 8);
        Due.fault("share 1 1 101", 4, 10);
        Due.fault("share 1 1 1 101", 4, 12);
        Due.fault("share 0 0 0 0", 4, 12);
        Due.fault("need 13", 4, 5);
        Due.fault("need 1 rank 4", 4, 12);
        Due.fault("terms 0", 4, 6);
        Due.fault("terms 7", 4, 6);
        Due.fault("terms 1 days 0", 4, 13);
        Due.fault("terms 1 days 401", 4, 13);
    }

    private static void ofTheLatestLaw() {
        BloodPrice moot = new BloodPrice();
        Due.is("at first, fault(0)", moot.fault(0), 0);
        Due.is("at first, fault(1)", moot.fault(1), -1);
        latest(moot, "A", -1, 1, 0);
        latest(moot, "hurt", -1, 2, 4);
        latest(moot, "hurt a 5;hurt a", -1, 3, 14);
        latest(moot, "terms 9", -1, 4, 6);
        latest(moot, "hurt a 5;", 1, 0, -1);
        latest(moot, "terms 1 days 0", -1, 4, 13);
        Due.write(moot, "A");
        Due.is("law(-1, 0)", moot.law(-1, 0), -2);
        Due.is("law(0, -1)", moot.law(0, -1), -2);
        Due.is("fault(0) behind a -2", moot.fault(0), 4);
        Due.is("fault(1) behind a -2", moot.fault(1), 13);
        Due.is("law(1, 0)", moot.law(1, 0), -1);
        Due.is("fault(0)", moot.fault(0), 1);
        Due.is("fault(1)", moot.fault(1), 0);
    }

    private static void latest(BloodPrice moot, String text, int answer, int fault, int place) {
        Due.is("law of \"" + text + "\"", Due.tell(moot, 0, 0, text), answer);
        Due.is("its fault(0)", moot.fault(0), fault);
        Due.is("its fault(1)", moot.fault(1), place);
    }
}
