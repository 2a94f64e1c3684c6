/** Promises 4 and 5: which texts are LAWS, and the FAULTS of those that are not. */
public final class LawTextTest {
    private static final String SIX_NOTS = "not not not not not not ";

    public static void main(String[] args) {
        texts();
        tokens();
        faultsOfLines();
        faultsOfNumbers();
        faultsOfConditions();
        tooMany();
        sums();
        depth();
        faultStays();
        Due.finish();
    }

    private static void texts() {
        Due.good("");
        Due.good(" \n ");
        Due.good("hurt hand 60;");
        Due.good("hurt a 0;hurt abcdefgh 100000;");
        Due.good("when 1 do double; when 0 do half; when rank do add 100000; when sum do less 0;");
        Due.good("share 0 0 0 1; need 12 rank 3; terms 6 days 400;");
        Due.good("share 100 100 100 100; need 0 rank 0; terms 1 days 1;");
        Due.good("terms 1 days 1; share 1 0 0 0; when kin do half; need 0 rank 0; hurt x 1;");
        Due.good("when rank < other or place > 3 and night = 1 and not (kin or truce) or sum < 999999 do half;");
    }

    private static void tokens() {
        Due.good("hurt\nhand\n60\n;");
        Due.good("hurt hand60;");
        Due.good("when(rank>1)do half;");
        Due.good("when not(1)and 2<3 or(4)do half;");
        Due.fault("when 2<3or(4)do half;", 1, 7);
        Due.good("hurt a 000007;");
        Due.fault("hurt a 5;\t", 1, 9);
        Due.fault("hurt a 5;\r\n", 1, 9);
        Due.fault("Hurt a 5;", 1, 0);
        Due.fault("hurt A 5;", 1, 5);
        Due.fault("hurt a 5,", 1, 8);
        Due.fault("hurt a -5;", 1, 7);
        Due.fault("hurt a 5;\0", 1, 9);
        Due.fault("hurt a 5;\1", 1, 9);
        Due.fault("hurt abcdefghi 5;", 1, 5);
        Due.fault("hurt abcdefghijklmnopq 5;", 1, 5);
        Due.fault("hurt a 1234567;", 1, 7);
        Due.fault("hurt a 0000001;", 1, 7);
        Due.fault("when 5do half;", 1, 5);
        Due.fault("when 1234567 do half;", 1, 5);
        Due.fault("5a", 1, 0);
        Due.fault("abcdefghi", 1, 0);
        Due.fault("1234567", 1, 0);
        Due.fault("hurthand 5;", 2, 0);
        Due.fault("whenrank do half;", 2, 0);
    }

    private static void faultsOfLines() {
        Due.fault(";", 2, 0);
        Due.fault("5;", 2, 0);
        Due.fault("hand 5;", 2, 0);
        Due.fault("hurt", 2, 4);
        Due.fault("hurt ", 2, 5);
        Due.fault("hurt a", 2, 6);
        Due.fault("hurt a 5", 2, 8);
        Due.fault("hurt a 5 ", 2, 9);
        Due.fault("hurt 5 a;", 2, 5);
        Due.fault("hurt a ;", 2, 7);
        Due.fault("hurt a 5 6;", 2, 9);
        Due.fault("hurt a 5;;", 2, 9);
        Due.fault("hurt a 1; hurt b 2; hurt a 3;", 3, 25);
        Due.fault("hurt a 1; hurt a", 3, 15);
        for (String word : Due.NO_NAMES) {
            Due.fault("hurt " + word + " 5;", 2, 5);
        }
        Due.good("hurt ranks 5; hurt su 6; hurt dos 7;");
        Due.fault("share 1 2 3;", 2, 11);
        Due.fault("share 1 2 3 4 5;", 2, 14);
        Due.fault("need 1 2;", 2, 7);
        Due.fault("need 1 days 2;", 2, 7);
        Due.fault("need rank 2;", 2, 5);
        Due.fault("terms 1 rank 2;", 2, 8);
        Due.fault("terms 1 days;", 2, 12);
        Due.fault("share 1 0 0 0; share 1 0 0 0;", 2, 15);
        Due.fault("need 1 rank 0; hurt a 5; need 1 rank 0;", 2, 25);
        Due.fault("terms 1 days 1;terms 1 days 1;", 2, 15);
    }

    private static void faultsOfNumbers() {
        Due.fault("hurt a 100001;", 4, 7);
        Due.fault("hurt a 999999", 4, 7);
        Due.fault("share 101 0 0 0;", 4, 6);
        Due.fault("share 0 0 0 101;", 4, 12);
        Due.fault("share 0 0 0 0;", 4, 12);
        Due.fault("share 0 0 0 ;", 2, 12);
        Due.fault("need 13 rank 0;", 4, 5);
        Due.fault("need 12 rank 4;", 4, 13);
        Due.fault("terms 0 days 1;", 4, 6);
        Due.fault("terms 7 days 1;", 4, 6);
        Due.fault("terms 1 days 0;", 4, 13);
        Due.fault("terms 1 days 401;", 4, 13);
        Due.fault("when 1 do add 100001;", 4, 14);
        Due.fault("when 1 do less 100001;", 4, 15);
    }

    private static void faultsOfConditions() {
        Due.fault("when do half;", 2, 5);
        Due.fault("when hand do half;", 2, 5);
        Due.fault("when 1 half;", 2, 7);
        Due.fault("when 1 do;", 2, 9);
        Due.fault("when 1 do add;", 2, 13);
        Due.fault("when 1 do double 2;", 2, 17);
        Due.fault("when 1 do kin;", 2, 10);
        Due.fault("when 1 and do half;", 2, 11);
        Due.fault("when 1 or or 1 do half;", 2, 10);
        Due.fault("when or 1 do half;", 2, 5);
        Due.fault("when not do half;", 2, 9);
        Due.fault("when 1 < 2 < 3 do half;", 2, 11);
        Due.fault("when (1) < 2 do half;", 2, 9);
        Due.fault("when 1 < (2) do half;", 2, 9);
        Due.fault("when 1 < not 2 do half;", 2, 9);
        Due.fault("when (1 do half;", 2, 8);
        Due.fault("when 1) do half;", 2, 6);
        Due.fault("when () do half;", 2, 6);
        Due.fault("when 1 2 do half;", 2, 7);
        Due.fault("when 1 <", 2, 8);
        Due.fault("when (1", 2, 7);
        Due.fault("when 1 < > 2 do half;", 2, 9);
        Due.fault("when 1 & 2 do half;", 1, 7);
    }

    private static void tooMany() {
        StringBuilder hurts = new StringBuilder();
        for (char c = 'a'; c < 'a' + 12; c++) {
            hurts.append("hurt ").append(c).append(" 1;");
        }
        Due.good(hurts.toString());
        Due.fault(hurts + "hurt z 1;", 2, hurts.length());
        Due.fault(hurts + "hurt a 1;", 2, hurts.length());
        String whens = "when 1 do half;".repeat(16);
        Due.good(whens);
        Due.good(hurts + whens);
        Due.fault(whens + "when 1 do half;", 2, whens.length());
    }

    private static void sums() {
        String sixty = "when " + "1<2 and ".repeat(29) + "1<2 do half;";
        Due.good(sixty);
        Due.fault(sixty + "when kin do half;", 2, sixty.length() + 5);
        Due.fault("when " + "1 or ".repeat(60) + "kin do half;", 2, 5 + 300);
        Due.fault("when " + "1 or ".repeat(59) + "1 = 2 do half;", 2, 5 + 295 + 4);
        Due.fault("when " + "1 and ".repeat(60) + "; do half;", 2, 5 + 360);
        Due.good("when " + "1 or ".repeat(59) + "1 do half;");
    }

    private static void depth() {
        Due.good("when (((((1))))) do half;");
        Due.fault("when ((((((1)))))) do half;", 2, 11);
        Due.fault("when (((((( 1)))))) do half;", 2, 12);
        Due.good("when not not not not not 1 do half;");
        Due.fault("when " + SIX_NOTS + "1 do half;", 2, 5 + SIX_NOTS.length());
        Due.fault("when " + SIX_NOTS, 2, 5 + SIX_NOTS.length());
        Due.fault("when " + SIX_NOTS + "A do half;", 1, 5 + SIX_NOTS.length());
        Due.good("when not(not(not 1))do half;");
        Due.fault("when not(not(not(1)))do half;", 2, 17);
        Due.good("when (((((1))))) and (((((2))))) do half;");
        Due.good("when (((((1) or (2))))) or not not not not not 3 do half;");
    }

    private static void faultStays() {
        BloodPrice moot = new BloodPrice();
        Due.is("law", Due.tell(moot, 0, 0, "hurt a"), -1);
        Due.write(moot, "hurt");
        Due.is("law(4, 0)", moot.law(4, 0), -2);
        Due.is("about(7)", moot.about(7), 4);
        Due.is("fault(0) behind -2", moot.fault(0), 2);
        Due.is("fault(1) behind -2", moot.fault(1), 6);
        Due.is("fault(2)", moot.fault(2), -1);
        Due.is("fault(-1)", moot.fault(-1), -1);
        Due.is("end(0)", moot.end(0), 0);
        Due.is("law", moot.law(0, 0), 1);
        Due.is("fault(0) of a good law", moot.fault(0), 0);
        Due.is("fault(1) of a good law", moot.fault(1), -1);
    }
}
