/** Promises 12 and 13: truce and later. */
public final class TruceAndDayTest {
    public static void main(String[] args) {
        whatCannotBe();
        tenTruces();
        heldFromDayToDay();
        days();
        Due.finish();
    }

    private static void whatCannotBe() {
        BloodPrice moot = new BloodPrice();
        Due.is("truce(-1, 0, 0, 0)", moot.truce(-1, 0, 0, 0), -1);
        Due.is("truce(0, -1, 0, 0)", moot.truce(0, -1, 0, 0), -1);
        Due.is("truce(4, 0, 0, 0)", moot.truce(4, 0, 0, 0), -1);
        Due.is("truce(0, 4, 0, 0)", moot.truce(0, 4, 0, 0), -1);
        Due.is("truce(0, 1, -1, 0)", moot.truce(0, 1, -1, 0), -1);
        Due.is("truce(0, 1, 0, 100001)", moot.truce(0, 1, 0, 100001), -1);
        Due.is("truce(0, 1, 5, 4)", moot.truce(0, 1, 5, 4), -1);
        Due.is("truce(0, 1, 100001, 100001)", moot.truce(0, 1, 100001, 100001), -1);
        Due.is("about(3)", moot.about(3), 0);
        Due.is("truce(0, 1, 0, 100000)", moot.truce(0, 1, 0, 100000), 1);
        Due.is("truce(3, 3, 100000, 100000)", moot.truce(3, 3, 100000, 100000), 2);
    }

    private static void tenTruces() {
        BloodPrice moot = new BloodPrice();
        for (int i = 1; i <= 10; i++) {
            Due.is("truce", moot.truce(0, 0, i, i), i);
        }
        Due.is("11th truce", moot.truce(0, 0, 1, 1), -1);
        Due.is("about(3)", moot.about(3), 10);
    }

    private static void heldFromDayToDay() {
        BloodPrice moot = new BloodPrice();
        moot.person(0, -1, -1);
        moot.person(1, -1, -1);
        moot.person(1, -1, -1);
        moot.later(10);
        for (int day = 2; day <= 6; day++) {
            moot.hurt(0, 1, Due.name("eye"), day, 0, false);
        }
        moot.hurt(1, 0, Due.name("eye"), 4, 0, false);
        moot.hurt(1, 2, Due.name("eye"), 4, 0, false);
        moot.truce(1, 0, 3, 5);
        int[] due = {0, 1, 1, 1, 0, 1, 0};
        for (int which = 0; which < due.length; which++) {
            Due.is("of(" + which + ", 3)", moot.of(which, 3), due[which]);
        }
        moot.truce(1, 1, 4, 4);
        Due.is("of(6, 3) within one folk", moot.of(6, 3), 1);
        moot.truce(2, 1, 6, 6);
        Due.is("of(4, 3) by another folk's truce", moot.of(4, 3), 0);
    }

    private static void days() {
        BloodPrice moot = new BloodPrice();
        Due.is("later(-1)", moot.later(-1), -1);
        Due.is("later(1001)", moot.later(1001), -1);
        Due.is("later(MAX)", moot.later(Integer.MAX_VALUE), -1);
        Due.is("later(MIN)", moot.later(Integer.MIN_VALUE), -1);
        Due.is("later(0)", moot.later(0), 0);
        for (int i = 1; i < 100; i++) {
            Due.is("later(1000)", moot.later(1000), 1000 * i);
        }
        Due.is("later(999)", moot.later(999), 99999);
        Due.is("later(2)", moot.later(2), -1);
        Due.is("about(0)", moot.about(0), 99999);
        Due.is("later(1)", moot.later(1), 100000);
        Due.is("later(1)", moot.later(1), -1);
        Due.is("later(0)", moot.later(0), 100000);
    }
}
