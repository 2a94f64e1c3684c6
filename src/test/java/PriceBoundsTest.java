/** PRICE: "0 at least", "10000000 at most, always", and the values of each WORD from the least to the greatest. */
public final class PriceBoundsTest {
    private static final long HAND = Twins.HAND;
    // 78125 doubled six times is 5000000, half of what is at most.
    private static final String HALF_OF_MOST = "hurt hand 78125;" + "when 1 do double;".repeat(6);
    private static final String MOST = HALF_OF_MOST + "when 1 do double;";

    public static void main(String[] args) {
        zeroAtLeast();
        halved();
        tenMillionsAtMostDoubled();
        tenMillionsAtMostAdded();
        onlyWhenNotZero();
        sumSoFar();
        comparisons();
        ranks();
        places();
        nightOrNot();
        kinOfDegreeThree();
        Due.finish();
    }

    private static void price(String text, int due) {
        Due.is("price by \"" + text + "\"", Due.price(text), due);
    }

    private static void zeroAtLeast() {
        price("hurt hand 5; when 1 do less 4;", 1);
        price("hurt hand 5; when 1 do less 5;", 0);
        price("hurt hand 5; when 1 do less 6;", 0);
        price("hurt hand 5; when 1 do less 100000;", 0);
        price("hurt hand 0; when 1 do less 1;", 0);
        price("hurt hand 0; when 1 do less 0;", 0);
        price("hurt hand 5; when 1 do less 6; when 1 do add 1;", 1);
        price("hurt hand 5; when 1 do less 100000; when sum do add 1;", 0);
        price("hurt hand 5; when 1 do less 100000; when not sum do add 1;", 1);
        price("hurt hand 5; when 1 do less 100000; when sum = 0 do add 1;", 1);
        price("hurt hand 0; when 1 do double;", 0);
    }

    private static void halved() {
        price("hurt hand 0; when 1 do half;", 0);
        price("hurt hand 1; when 1 do half;", 0);
        price("hurt hand 2; when 1 do half;", 1);
        price("hurt hand 3; when 1 do half;", 1);
        price("hurt hand 99999; when 1 do half;", 49999);
        price("hurt hand 3; when 1 do half; when 1 do double;", 2);
    }

    private static void tenMillionsAtMostDoubled() {
        price(HALF_OF_MOST, 5000000);
        price(MOST, 10000000);
        price(HALF_OF_MOST + "when 1 do less 1; when 1 do double;", 9999998);
        price(HALF_OF_MOST + "when 1 do add 1; when 1 do double;", 10000000);
        price(HALF_OF_MOST + "when 1 do add 1; when 1 do double; when 1 do half;", 5000000);
        price(HALF_OF_MOST + "when 1 do add 1; when 1 do double; when 1 do less 2;", 9999998);
        price(MOST + "when 1 do double;", 10000000);
        price("hurt hand 100000;" + "when 1 do double;".repeat(16), 10000000);
        price("hurt hand 100000;" + "when 1 do double;".repeat(15) + "when 1 do half;", 5000000);
    }

    private static void tenMillionsAtMostAdded() {
        price(MOST + "when 1 do less 1;", 9999999);
        price(MOST + "when 1 do less 1; when 1 do add 1;", 10000000);
        price(MOST + "when 1 do less 1; when 1 do add 2;", 10000000);
        price(MOST + "when 1 do less 1; when 1 do add 2; when 1 do less 1;", 9999999);
        price(MOST + "when 1 do add 0;", 10000000);
        price(MOST + "when 1 do add 100000;", 10000000);
        price(MOST + "when 1 do add 100000; when 1 do less 100000;", 9900000);
        price(MOST + "when 1 do less 100000; when 1 do add 99999;", 9999999);
        price(MOST + "when 1 do less 100000; when 1 do add 100000;", 10000000);
    }

    private static void onlyWhenNotZero() {
        price("hurt hand 5; when 0 do double;", 5);
        price("hurt hand 5; when 1 do double;", 10);
        price("hurt hand 5; when 2 do double;", 10);
        price("hurt hand 5; when 000000 do double;", 5);
        price("hurt hand 5; when not 2 do double;", 5);
        price("hurt hand 5; when 2 and 4 do double;", 10);
        price("hurt hand 5; when 0 or 2 do double;", 10);
    }

    private static void sumSoFar() {
        price("when sum = 5 do add 1; when sum = 6 do add 10; when sum = 16 do add 100; hurt hand 5;", 116);
        price("when sum = 5 do add 1; when sum = 5 do add 10; hurt hand 5;", 6);
        price("when sum > 4 do half; when sum > 4 do half; hurt hand 9;", 4);
        price("when sum > 4 do half; when sum > 4 do half; hurt hand 10;", 2);
    }

    private static void comparisons() {
        holds("1 < 2", true);
        holds("2 < 2", false);
        holds("3 < 2", false);
        holds("1 > 2", false);
        holds("2 > 2", false);
        holds("3 > 2", true);
        holds("1 = 2", false);
        holds("2 = 2", true);
        holds("3 = 2", false);
        holds("not 2 = 2", false);
        holds("not 0", true);
        holds("not 1", false);
        holds("0 and 0", false);
        holds("0 and 1", false);
        holds("1 and 0", false);
        holds("1 and 1", true);
        holds("0 or 0", false);
        holds("0 or 1", true);
        holds("1 or 0", true);
        holds("1 or 1", true);
    }

    private static void holds(String e, boolean due) {
        price("hurt hand 5; when " + e + " do double;", due ? 10 : 5);
    }

    private static void ranks() {
        for (int rank = 0; rank <= 3; rank++) {
            BloodPrice moot = moot("hurt hand 0; when rank = " + rank + " do add 1; when rank > 2 do add 10;"
                + " when other = " + (3 - rank) + " do add 100; when other do add 1000;");
            moot.rank(1, rank, 0);
            moot.rank(0, 3 - rank, 0);
            moot.hurt(0, 1, HAND, 0, 0, false);
            Due.is("rank " + rank, moot.sum(0, 0), 101 + (rank == 3 ? 10 : 1000));
        }
    }

    private static void places() {
        BloodPrice moot = moot("hurt hand 0; when place do add 1; when place < 2 do add 10; when place = 3 do add 100;");
        int[] due = {10, 11, 1, 101};
        for (int place = 0; place <= 3; place++) {
            Due.is("hurt", moot.hurt(0, 1, HAND, 0, place, false), place);
            Due.is("place " + place, moot.sum(place, 0), due[place]);
        }
    }

    private static void nightOrNot() {
        BloodPrice moot = moot("hurt hand 0; when night = 1 do add 1; when night = 0 do add 10; when night do add 100;");
        moot.hurt(0, 1, HAND, 0, 0, false);
        moot.hurt(0, 1, HAND, 0, 0, true);
        Due.is("by day", moot.sum(0, 0), 10);
        Due.is("by night", moot.sum(1, 0), 101);
    }

    private static void kinOfDegreeThree() {
        BloodPrice moot = moot("hurt hand 0; when kin = 1 do add 1; when kin = 0 do add 10; when not kin do add 100;");
        int[] due = {1, 1, 1, 110, 110};
        for (int degree = 1; degree <= 5; degree++) {
            Due.is("person", moot.person(0, degree == 1 ? 0 : degree, -1), degree + 1);
            Due.is("degree", moot.degree(0, degree + 1), degree);
            moot.hurt(0, degree + 1, HAND, 0, 0, false);
            Due.is("kin of degree " + degree, moot.sum(degree - 1, 0), due[degree - 1]);
        }
        moot.hurt(0, 1, HAND, 0, 0, false);
        Due.is("no kin", moot.sum(5, 0), 110);
    }

    private static BloodPrice moot(String text) {
        BloodPrice moot = new BloodPrice();
        moot.person(0, -1, -1);
        moot.person(0, -1, -1);
        Due.is("law", Due.tell(moot, 0, 0, text), 1);
        return moot;
    }
}
