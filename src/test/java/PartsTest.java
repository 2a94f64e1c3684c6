/** Promises 18 and 19: who pays and who has, by DEGREES. */
public final class PartsTest {
    private static final long HAND = Due.name("hand");

    public static void main(String[] args) {
        none();
        allDegrees();
        leftOver();
        wholeDegreesPassedOn();
        theDead();
        otherFolk();
        eachSideWithoutTheOther();
        largestSum();
        Due.finish();
    }

    /** A chain of mothers 0 .. 5 of one FOLK, and 6, a stranger of another FOLK. */
    private static BloodPrice chain(String text) {
        BloodPrice moot = new BloodPrice();
        for (int i = 0; i < 6; i++) {
            moot.person(0, i - 1, -1);
        }
        moot.person(1, -1, -1);
        Due.is("law", Due.tell(moot, 0, 0, text), 1);
        Due.is("law", Due.tell(moot, 1, 0, text), 1);
        moot.later(10);
        return moot;
    }

    private static void paid(BloodPrice moot, int which, int... due) {
        for (int person = 0; person < due.length; person++) {
            Due.is("pays(" + which + ", " + person + ")", moot.pays(which, person, 10), due[person]);
        }
    }

    private static void had(BloodPrice moot, int which, int... due) {
        for (int person = 0; person < due.length; person++) {
            Due.is("has(" + which + ", " + person + ")", moot.has(which, person, 10), due[person]);
        }
    }

    private static void none() {
        BloodPrice moot = chain("hurt hand 100; when rank = 1 do double;");
        moot.hurt(0, 6, HAND, 5, 0, false);
        moot.hurt(0, 6, Due.name("foot"), 5, 0, false);
        int[] nobody = {-1, 7, Integer.MAX_VALUE, Integer.MIN_VALUE};
        for (int person : nobody) {
            Due.is("pays of nobody", moot.pays(0, person, 10), -1);
            Due.is("has of nobody", moot.has(0, person, 10), -1);
            Due.is("pays of no case", moot.pays(person == 7 ? 2 : person, 0, 10), -1);
            Due.is("has of no case", moot.has(person == 7 ? 2 : person, 0, 10), -1);
        }
        for (int person = 0; person < 7; person++) {
            Due.is("pays without a sum", moot.pays(1, person, 10), -1);
            Due.is("has without a sum", moot.has(1, person, 10), -1);
        }
        moot.rank(6, 1, 0);
        Due.is("pays as known on 9", moot.pays(0, 0, 9), 100);
        Due.is("pays as known on 10", moot.pays(0, 0, 10), 200);
        Due.is("has as known on 9", moot.has(0, 6, 9), 100);
        Due.is("has as known on 10", moot.has(0, 6, 10), 200);
    }

    private static void allDegrees() {
        BloodPrice moot = chain("hurt hand 100; share 4 3 2 1;");
        moot.hurt(0, 6, HAND, 5, 0, false);
        paid(moot, 0, 40, 30, 20, 10, 0, 0, 0);
        had(moot, 0, 0, 0, 0, 0, 0, 0, 100);
        moot.hurt(6, 0, HAND, 5, 0, false);
        paid(moot, 1, 0, 0, 0, 0, 0, 0, 100);
        had(moot, 1, 40, 30, 20, 10, 0, 0, 0);
        moot.hurt(2, 6, HAND, 5, 0, false);
        paid(moot, 2, 10, 15, 40, 15, 10, 10, 0);
    }

    private static void leftOver() {
        BloodPrice moot = chain("hurt hand 101; share 0 1 1 1;");
        moot.hurt(2, 6, HAND, 5, 0, false);
        paid(moot, 0, 16, 16, 4, 16, 16, 33, 0);
        moot.hurt(6, 2, HAND, 5, 0, false);
        had(moot, 1, 16, 16, 4, 16, 16, 33, 0);
    }

    private static void wholeDegreesPassedOn() {
        BloodPrice moot = chain("hurt hand 100; share 0 0 0 1;");
        moot.hurt(6, 3, HAND, 5, 0, false);
        moot.hurt(2, 6, HAND, 5, 0, false);
        moot.dead(5, 0);
        paid(moot, 0, 0, 0, 0, 0, 0, 0, 100);
        had(moot, 0, 100, 0, 0, 0, 0, 0, 0);
        paid(moot, 1, 0, 0, 100, 0, 0, 0, 0);
    }

    private static void theDead() {
        BloodPrice moot = chain("hurt hand 100; share 1 1 0 0;");
        moot.hurt(2, 6, HAND, 5, 0, false);
        moot.hurt(6, 2, HAND, 5, 0, false);
        moot.dead(1, 6);
        paid(moot, 0, 0, 25, 50, 25, 0, 0, 0);
        moot.dead(3, 5);
        paid(moot, 0, 0, 50, 50, 0, 0, 0, 0);
        moot.dead(2, 0);
        paid(moot, 0, 0, 50, 50, 0, 0, 0, 0);
        had(moot, 1, 0, 50, 50, 0, 0, 0, 0);
        Due.is("a dead one's kin", moot.degree(2, 4), 2);
    }

    private static void otherFolk() {
        BloodPrice moot = new BloodPrice();
        moot.person(0, -1, -1);
        moot.person(1, 0, -1);
        moot.person(0, 1, -1);
        moot.person(2, -1, -1);
        Due.tell(moot, 2, 0, "hurt hand 100; share 1 1 1 1;");
        Due.tell(moot, 0, 0, "hurt hand 200; share 1 1 1 1;");
        moot.hurt(0, 3, HAND, 0, 0, false);
        paid(moot, 0, 75, 0, 25, 0);
        moot.hurt(3, 0, HAND, 0, 0, false);
        had(moot, 1, 150, 0, 50, 0);
    }

    private static void eachSideWithoutTheOther() {
        BloodPrice moot = chain("hurt hand 100; share 1 1 1 1;");
        moot.hurt(2, 3, HAND, 5, 0, false);
        paid(moot, 0, 12, 25, 26, 0, 12, 25, 0);
        had(moot, 0, 25, 12, 0, 26, 25, 12, 0);
        moot.hurt(0, 1, HAND, 5, 0, false);
        paid(moot, 1, 50, 0, 25, 25, 0, 0, 0);
        had(moot, 1, 0, 25, 25, 25, 25, 0, 0);
    }

    private static void largestSum() {
        BloodPrice moot = chain("hurt hand 100000; share 0 100 100 1;" + "when 1 do double;".repeat(7));
        moot.hurt(0, 6, HAND, 5, 0, false);
        paid(moot, 0, 1, 4975124, 4975124, 49751, 0, 0, 0);
    }
}
