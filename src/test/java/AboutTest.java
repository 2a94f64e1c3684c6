/** Promise 24: about. */
public final class AboutTest {
    public static void main(String[] args) {
        counts();
        noOtherWhat();
        Due.finish();
    }

    private static void counts() {
        BloodPrice moot = new BloodPrice();
        Due.tell(moot, 0, 0, "hurt hand 60;");
        moot.law(2, 5);
        moot.law(2, 5);
        moot.law(2, 5);
        moot.law(3, 0);
        moot.law(3, 0);
        moot.feed(0, 0, 0, 0, 0);
        moot.end(13);
        moot.later(77);
        for (int i = 0; i < 6; i++) {
            moot.person(0, -1, -1);
        }
        for (int i = 0; i < 5; i++) {
            moot.rank(0, 1, 1);
        }
        for (int i = 0; i < 4; i++) {
            moot.truce(0, 1, 0, 1);
        }
        for (int i = 0; i < 3; i++) {
            moot.hurt(0, 1, Due.name("hand"), 0, 0, false);
        }
        moot.judge(0);
        moot.pay(0, 0, 1);
        moot.pay(0, 0, 1);
        moot.rate(0, 1);
        int[] due = {77, 6, 5, 4, 3, 2, 1, 13, -1, -1, 1, 0, 3, 2, -1};
        for (int what = 0; what < due.length; what++) {
            Due.is("about(" + what + ")", moot.about(what), due[what]);
        }
    }

    private static void noOtherWhat() {
        BloodPrice moot = new BloodPrice();
        int[] others = {-1, 8, 9, 14, 20, Integer.MAX_VALUE, Integer.MIN_VALUE, Integer.MIN_VALUE + 10};
        for (int what : others) {
            Due.is("about(" + what + ")", moot.about(what), -1);
        }
    }
}
