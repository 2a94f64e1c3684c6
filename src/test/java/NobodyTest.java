/** "NONE for another what", "if one is none", "if there is no such PERSON", "-2000000001 if it can't be asked". */
public final class NobodyTest {
    private static final int MAX = Integer.MAX_VALUE;
    private static final int MIN = Integer.MIN_VALUE;
    private static final long HAND = Twins.HAND;

    public static void main(String[] args) {
        ofANewObject();
        aboutAnotherWhat();
        faultOfAnotherWhat();
        ofAnotherWhat();
        lawOnOfNoFolk();
        degreeOfNobody();
        rankedOfNobody();
        casesThatAreNone();
        partsOfNobody();
        partsWithoutASum();
        Due.finish();
    }

    /** Two PEOPLE, and a CASE 0 with a SUM, a CASE 1 with a LAW that has no such hurt, a CASE 2 without a LAW. */
    private static BloodPrice moot() {
        BloodPrice moot = new BloodPrice();
        moot.person(0, -1, -1);
        moot.person(1, -1, -1);
        Due.is("law", Due.tell(moot, 0, 0, "hurt hand 60;"), 1);
        moot.hurt(1, 0, HAND, 0, 0, false);
        moot.hurt(1, 0, Due.name("foot"), 0, 0, false);
        moot.hurt(0, 1, HAND, 0, 0, false);
        return moot;
    }

    private static void ofANewObject() {
        BloodPrice moot = new BloodPrice();
        for (int any : new int[] {-1, 0, 1, MAX, MIN}) {
            Due.is("degree", moot.degree(any, any), -1);
            Due.is("ranked", moot.ranked(any, 0, 0), -1);
            Due.is("rank", moot.rank(any, 0, 0), -1);
            Due.is("dead", moot.dead(any, 0), false);
            Due.is("hurt", moot.hurt(any, any + 1, HAND, 0, 0, false), -1);
            Due.is("sum", moot.sum(any, 0), -1);
            Due.is("oath", moot.oath(any, 0), -1);
            Due.is("of", moot.of(any, 0), -1);
            Due.is("pays", moot.pays(any, any, 0), -1);
            Due.is("has", moot.has(any, any, 0), -1);
            Due.is("judge", moot.judge(any), -1);
            Due.is("pay", moot.pay(any, 0, 1), -1);
            Due.is("owed", moot.owed(any, 0), -2000000001);
            Due.is("lawOn", moot.lawOn(any, 0), -1);
        }
        for (int what = 0; what <= 13; what++) {
            Due.is("about(" + what + ")", moot.about(what), what == 8 || what == 9 ? -1 : 0);
        }
        Due.is("fault(0)", moot.fault(0), 0);
        Due.is("fault(1)", moot.fault(1), -1);
    }

    private static void aboutAnotherWhat() {
        BloodPrice moot = moot();
        for (int what : new int[] {-1, 8, 9, 14, 100, MAX, MIN, MIN + 9, MIN + 10, MIN + 13}) {
            Due.is("about(" + what + ")", moot.about(what), -1);
        }
        int[] due = {0, 2, 0, 0, 3, 0, 0, 0, -1, -1, 1, 0, 0, 0, -1};
        for (int what = 0; what < due.length; what++) {
            Due.is("about(" + what + ")", moot.about(what), due[what]);
        }
    }

    private static void faultOfAnotherWhat() {
        BloodPrice moot = moot();
        Due.is("law", Due.tell(moot, 0, 0, "hurt hand 100001;"), -1);
        Due.is("fault(0)", moot.fault(0), 4);
        Due.is("fault(1)", moot.fault(1), 10);
        for (int what : new int[] {-1, 2, 3, MAX, MIN}) {
            Due.is("fault(" + what + ")", moot.fault(what), -1);
        }
    }

    private static void ofAnotherWhat() {
        BloodPrice moot = moot();
        moot.later(1);
        Due.is("judge", moot.judge(0), 60);
        int[] due = {1, 0, 0, 0, -1, 1};
        for (int what = 0; what < due.length; what++) {
            Due.is("of(0, " + what + ")", moot.of(0, what), due[what]);
        }
        for (int what : new int[] {-1, 6, 7, MAX, MIN}) {
            Due.is("of(0, " + what + ")", moot.of(0, what), -1);
        }
    }

    private static void lawOnOfNoFolk() {
        BloodPrice moot = moot();
        for (int folk : new int[] {-1, 1, 2, 3, 4, MAX, MIN}) {
            Due.is("lawOn(" + folk + ", 0)", moot.lawOn(folk, 0), -1);
        }
        Due.is("lawOn(0, 0)", moot.lawOn(0, 0), 0);
        Due.is("lawOn(0, -1)", moot.lawOn(0, -1), -1);
    }

    private static void degreeOfNobody() {
        BloodPrice moot = moot();
        for (int nobody : new int[] {-1, 2, 20, MAX, MIN}) {
            Due.is("degree(0, " + nobody + ")", moot.degree(0, nobody), -1);
            Due.is("degree(" + nobody + ", 0)", moot.degree(nobody, 0), -1);
            Due.is("degree of it to itself", moot.degree(nobody, nobody), -1);
        }
        Due.is("degree(0, 0)", moot.degree(0, 0), 0);
        Due.is("degree(1, 1)", moot.degree(1, 1), 0);
        Due.is("no way leads", moot.degree(0, 1), -1);
    }

    private static void rankedOfNobody() {
        BloodPrice moot = moot();
        for (int nobody : new int[] {-1, 2, 20, MAX, MIN}) {
            Due.is("ranked(" + nobody + ")", moot.ranked(nobody, 0, 0), -1);
        }
        Due.is("ranked(1)", moot.ranked(1, 0, 0), 0);
        Due.is("ranked on any day", moot.ranked(1, MIN, MIN), 0);
        Due.is("ranked on any day", moot.ranked(1, MAX, MAX), 0);
    }

    private static void casesThatAreNone() {
        BloodPrice moot = moot();
        for (int which : new int[] {-1, 3, 20, MAX, MIN}) {
            Due.is("sum(" + which + ")", moot.sum(which, 0), -1);
            Due.is("oath(" + which + ")", moot.oath(which, 0), -1);
            for (int what = 0; what <= 5; what++) {
                Due.is("of(" + which + ", " + what + ")", moot.of(which, what), -1);
            }
            Due.is("pays(" + which + ")", moot.pays(which, 0, 0), -1);
            Due.is("has(" + which + ")", moot.has(which, 0, 0), -1);
            Due.is("judge(" + which + ")", moot.judge(which), -1);
            Due.is("pay(" + which + ")", moot.pay(which, 0, 1), -1);
            Due.is("owed(" + which + ")", moot.owed(which, 0), -2000000001);
        }
    }

    private static void partsOfNobody() {
        BloodPrice moot = moot();
        for (int nobody : new int[] {-1, 2, 20, MAX, MIN}) {
            Due.is("pays(0, " + nobody + ")", moot.pays(0, nobody, 0), -1);
            Due.is("has(0, " + nobody + ")", moot.has(0, nobody, 0), -1);
        }
        Due.is("pays(0, 0)", moot.pays(0, 0, 0), 0);
        Due.is("pays(0, 1)", moot.pays(0, 1, 0), 60);
        Due.is("has(0, 0)", moot.has(0, 0, 0), 60);
        Due.is("has(0, 1)", moot.has(0, 1, 0), 0);
    }

    private static void partsWithoutASum() {
        BloodPrice moot = moot();
        for (int which = 1; which <= 2; which++) {
            Due.is("sum(" + which + ")", moot.sum(which, 0), -1);
            Due.is("judge(" + which + ")", moot.judge(which), -1);
            for (int person = -1; person <= 2; person++) {
                Due.is("pays(" + which + ", " + person + ")", moot.pays(which, person, 0), -1);
                Due.is("has(" + which + ", " + person + ")", moot.has(which, person, 0), -1);
            }
            Due.is("owed(" + which + ")", moot.owed(which, 0), -2000000001);
        }
    }
}
