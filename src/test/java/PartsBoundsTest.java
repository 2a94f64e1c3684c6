/** PARTS: "what is left over, and a DEGREE's that has nobody", the farthest DEGREE, many kin, small and great SUMS. */
public final class PartsBoundsTest {
    private static final long HAND = Twins.HAND;

    public static void main(String[] args) {
        leftOverOfTheShares();
        leftOverOfADegree();
        degreeThatHasNobody();
        shareOfNobodyAtAll();
        justThisDegree();
        theLeastDegreeOfTwoWays();
        notDeadOnTheDayOfTheHurt();
        ofTheSameFolk();
        notWhoWasHurt();
        whoWasHurtMayBeDead();
        whoDidItMayBeDead();
        nineteenKin();
        noughtAndTheGreatestSum();
        Due.finish();
    }

    /** One of FOLK 0 with so many children of its FOLK, and a stranger of FOLK 1 behind them, each hurt by the other. */
    private static BloodPrice family(int children, String text) {
        BloodPrice moot = new BloodPrice();
        moot.person(0, -1, -1);
        for (int i = 0; i < children; i++) {
            moot.person(0, 0, -1);
        }
        moot.person(1, -1, -1);
        both(moot, text);
        moot.hurt(0, children + 1, HAND, 0, 0, false);
        moot.hurt(children + 1, 0, HAND, 0, 0, false);
        return moot;
    }

    /** A chain of mothers 0 .. 5 of FOLK 0, and a stranger 6 of FOLK 1. */
    private static BloodPrice chain(String text) {
        BloodPrice moot = new BloodPrice();
        for (int i = 0; i < 6; i++) {
            moot.person(0, i - 1, -1);
        }
        moot.person(1, -1, -1);
        both(moot, text);
        return moot;
    }

    private static void both(BloodPrice moot, String text) {
        Due.is("law", Due.tell(moot, 0, 0, text), 1);
        Due.is("law", Due.tell(moot, 1, 0, text), 1);
    }

    private static void paid(BloodPrice moot, int which, int... due) {
        for (int person = 0; person < due.length; person++) {
            Due.is("pays(" + which + ", " + person + ")", moot.pays(which, person, 0), due[person]);
        }
    }

    private static void had(BloodPrice moot, int which, int... due) {
        for (int person = 0; person < due.length; person++) {
            Due.is("has(" + which + ", " + person + ")", moot.has(which, person, 0), due[person]);
        }
    }

    private static void leftOverOfTheShares() {
        int[][] due = {{0, 0, 0}, {1, 0, 0}, {2, 0, 0}, {2, 1, 0}, {3, 1, 0}, {4, 1, 0}, {4, 2, 0}};
        for (int sum = 0; sum < due.length; sum++) {
            BloodPrice moot = family(1, "hurt hand " + sum + "; share 2 1 0 0;");
            paid(moot, 0, due[sum]);
            had(moot, 1, due[sum]);
        }
    }

    private static void leftOverOfADegree() {
        int[][] due = {{0, 5, 5, 5, 0}, {1, 5, 5, 5, 0}, {2, 5, 5, 5, 0}, {0, 6, 6, 6, 0}};
        for (int more = 0; more < due.length; more++) {
            BloodPrice moot = family(3, "hurt hand " + (15 + more) + "; share 0 1 0 0;");
            paid(moot, 0, due[more]);
            had(moot, 1, due[more]);
        }
        paid(family(3, "hurt hand 2; share 0 1 0 0;"), 0, 2, 0, 0, 0, 0);
        paid(family(3, "hurt hand 3; share 0 1 0 0;"), 0, 0, 1, 1, 1, 0);
    }

    private static void degreeThatHasNobody() {
        String[] shares = {"1 0 0 0", "0 1 0 0", "0 0 1 0", "0 0 0 1"};
        for (String share : shares) {
            BloodPrice moot = family(0, "hurt hand 100; share " + share + ";");
            paid(moot, 0, 100, 0);
            had(moot, 0, 0, 100);
            paid(moot, 1, 0, 100);
            had(moot, 1, 100, 0);
        }
        paid(family(1, "hurt hand 100; share 0 1 0 0;"), 0, 0, 100, 0);
        paid(family(1, "hurt hand 100; share 0 0 1 0;"), 0, 100, 0, 0);
        paid(family(1, "hurt hand 100; share 1 2 3 4;"), 0, 80, 20, 0);
    }

    private static void shareOfNobodyAtAll() {
        BloodPrice moot = family(2, "hurt hand 100; share 0 0 50 50;");
        Due.is("dead", moot.dead(1, 0), true);
        Due.is("dead", moot.dead(2, 0), true);
        paid(moot, 0, 100, 0, 0, 0);
        had(moot, 1, 100, 0, 0, 0);
    }

    private static void justThisDegree() {
        String[] shares = {"1 0 0 0", "0 1 0 0", "0 0 1 0", "0 0 0 1"};
        for (int degree = 0; degree < shares.length; degree++) {
            BloodPrice moot = chain("hurt hand 100; share " + shares[degree] + ";");
            moot.hurt(0, 6, HAND, 0, 0, false);
            moot.hurt(6, 0, HAND, 0, 0, false);
            int[] due = new int[7];
            due[degree] = 100;
            paid(moot, 0, due);
            had(moot, 1, due);
        }
    }

    private static void theLeastDegreeOfTwoWays() {
        BloodPrice moot = chain("hurt hand 100; share 0 1 0 0;");
        Due.is("a child of 0 and of 3", moot.person(0, 3, 0), 7);
        moot.hurt(0, 6, HAND, 0, 0, false);
        moot.hurt(7, 6, HAND, 0, 0, false);
        paid(moot, 0, 0, 50, 0, 0, 0, 0, 0, 50);
        paid(moot, 1, 50, 0, 0, 50, 0, 0, 0, 0);
        Due.is("degree(0, 3)", moot.degree(0, 3), 2);
    }

    private static void notDeadOnTheDayOfTheHurt() {
        BloodPrice moot = family(2, "hurt hand 100; share 0 1 0 0;");
        moot.dead(1, 1);
        paid(moot, 0, 0, 50, 50, 0);
        moot.dead(2, 0);
        paid(moot, 0, 0, 100, 0, 0);
        had(moot, 1, 0, 100, 0, 0);
        moot.later(1);
        moot.hurt(0, 3, HAND, 1, 0, false);
        paid(moot, 2, 100, 0, 0, 0);
    }

    private static void ofTheSameFolk() {
        BloodPrice moot = new BloodPrice();
        for (int folk = 0; folk < 4; folk++) {
            moot.person(folk, folk == 0 ? -1 : 0, -1);
        }
        moot.person(0, 2, -1);
        moot.person(2, 2, -1);
        moot.person(1, -1, -1);
        both(moot, "hurt hand 100; share 0 1 1 0;");
        Due.is("law", Due.tell(moot, 2, 0, "hurt hand 100; share 0 1 1 0;"), 1);
        moot.hurt(0, 6, HAND, 0, 0, false);
        moot.hurt(6, 0, HAND, 0, 0, false);
        paid(moot, 0, 50, 0, 0, 0, 50, 0, 0);
        had(moot, 1, 50, 0, 0, 0, 50, 0, 0);
        moot.hurt(2, 6, HAND, 0, 0, false);
        moot.hurt(6, 2, HAND, 0, 0, false);
        paid(moot, 2, 0, 0, 50, 0, 0, 50, 0);
        had(moot, 3, 0, 0, 50, 0, 0, 50, 0);
    }

    private static void notWhoWasHurt() {
        BloodPrice moot = family(2, "hurt hand 100; share 0 1 0 0;");
        moot.hurt(0, 1, HAND, 0, 0, false);
        paid(moot, 2, 0, 0, 100, 0);
        had(moot, 2, 0, 100, 0, 0);
        moot = family(1, "hurt hand 100; share 0 1 0 0;");
        moot.hurt(0, 1, HAND, 0, 0, false);
        paid(moot, 2, 100, 0, 0);
        had(moot, 2, 0, 100, 0);
    }

    private static void whoWasHurtMayBeDead() {
        BloodPrice moot = family(1, "hurt hand 100; share 1 1 0 0;");
        moot.dead(0, 0);
        had(moot, 1, 50, 50, 0);
        moot.dead(1, 0);
        had(moot, 1, 100, 0, 0);
    }

    private static void whoDidItMayBeDead() {
        BloodPrice moot = family(1, "hurt hand 100; share 1 1 0 0;");
        moot.dead(0, 0);
        paid(moot, 0, 50, 50, 0);
    }

    private static void nineteenKin() {
        int[] sums = {17, 18, 19, 36};
        int[] each = {0, 1, 1, 2};
        for (int i = 0; i < sums.length; i++) {
            BloodPrice moot = family(18, "hurt hand " + sums[i] + "; share 0 1 0 0;");
            Due.is("who did it pays of " + sums[i], moot.pays(0, 0, 0), sums[i] - 18 * each[i]);
            Due.is("the first child pays", moot.pays(0, 1, 0), each[i]);
            Due.is("the last child pays", moot.pays(0, 18, 0), each[i]);
            Due.is("who was hurt pays", moot.pays(0, 19, 0), 0);
            Due.is("who was hurt has of " + sums[i], moot.has(1, 0, 0), sums[i] - 18 * each[i]);
            Due.is("the last child has", moot.has(1, 18, 0), each[i]);
        }
    }

    private static void noughtAndTheGreatestSum() {
        paid(family(2, "hurt hand 0; share 1 2 3 4;"), 0, 0, 0, 0, 0);
        String greatest = "hurt hand 100000;" + "when 1 do double;".repeat(7);
        paid(family(2, greatest + "share 100 100 100 100;"), 0, 7500000, 1250000, 1250000, 0);
        paid(family(2, greatest + "share 0 100 0 0;"), 0, 0, 5000000, 5000000, 0);
        paid(family(2, greatest + "share 100 99 0 100;"), 0, 10000000 - 2 * 1655518, 1655518, 1655518, 0);
    }
}
