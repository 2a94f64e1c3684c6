/** Promises 4 and 6: LAWS of several FOLK, in force by days. */
public final class LawOnTest {
    public static void main(String[] args) {
        whatCannotBe();
        fourEach();
        laterToldOfLikeDays();
        toldLaterForAnEarlierDay();
        Due.finish();
    }

    private static void whatCannotBe() {
        BloodPrice moot = new BloodPrice();
        Due.write(moot, "hurt a 1;");
        Due.is("law(-1, 0)", moot.law(-1, 0), -2);
        Due.is("law(4, 0)", moot.law(4, 0), -2);
        Due.is("law(MIN, 0)", moot.law(Integer.MIN_VALUE, 0), -2);
        Due.is("law(0, -1)", moot.law(0, -1), -2);
        Due.is("law(0, 100001)", moot.law(0, 100001), -2);
        Due.is("about(7)", moot.about(7), 9);
        Due.is("law(0, 100000)", moot.law(0, 100000), 1);
        Due.is("about(7)", moot.about(7), 0);
        Due.is("lawOn(0, 99999)", moot.lawOn(0, 99999), -1);
        Due.is("lawOn(0, 100000)", moot.lawOn(0, 100000), 0);
        Due.is("lawOn(0, MAX)", moot.lawOn(0, Integer.MAX_VALUE), 0);
        Due.is("lawOn(0, MIN)", moot.lawOn(0, Integer.MIN_VALUE), -1);
        Due.is("lawOn(-1, 5)", moot.lawOn(-1, 5), -1);
        Due.is("lawOn(4, 5)", moot.lawOn(4, 5), -1);
    }

    private static void fourEach() {
        BloodPrice moot = new BloodPrice();
        for (int i = 1; i <= 4; i++) {
            Due.is("law(2, 0)", moot.law(2, 0), i);
        }
        moot.feed(0, 0, 0, 0, 0);
        Due.is("fifth law", moot.law(2, 0), -2);
        Due.is("about(7)", moot.about(7), 20);
        Due.is("about(12)", moot.about(12), 4);
        Due.is("fault(0)", moot.fault(0), 0);
        moot.end(0);
        Due.is("law(3, 0)", moot.law(3, 0), 1);
        Due.is("about(13)", moot.about(13), 1);
        Due.is("lawOn(2, 0)", moot.lawOn(2, 0), 3);
        Due.is("lawOn(3, 0)", moot.lawOn(3, 0), 0);
        Due.is("lawOn(0, 0)", moot.lawOn(0, 0), -1);
    }

    private static void laterToldOfLikeDays() {
        BloodPrice moot = new BloodPrice();
        moot.law(1, 10);
        moot.law(1, 5);
        moot.law(1, 10);
        moot.law(1, 7);
        int[] due = {-1, 1, 1, 3, 3, 3, 2, 2};
        for (int day = 4; day < 12; day++) {
            Due.is("lawOn(1, " + day + ")", moot.lawOn(1, day), due[day - 4]);
        }
    }

    private static void toldLaterForAnEarlierDay() {
        BloodPrice moot = new BloodPrice();
        moot.person(0, -1, -1);
        moot.person(1, -1, -1);
        moot.later(50);
        moot.hurt(0, 1, Due.name("eye"), 20, 0, false);
        Due.is("sum without a law", moot.sum(0, 50), -1);
        Due.tell(moot, 0, 0, "hurt eye 1;");
        Due.is("sum by the law of who did it", moot.sum(0, 50), -1);
        Due.tell(moot, 1, 10, "hurt eye 7;");
        Due.is("sum", moot.sum(0, 50), 7);
        Due.is("sum as known before the law was told", moot.sum(0, 0), 7);
        Due.tell(moot, 1, 20, "hurt eye 9;");
        Due.is("sum by a law of the day itself", moot.sum(0, 50), 9);
        Due.tell(moot, 1, 21, "hurt eye 11;");
        Due.is("sum by no law of a later day", moot.sum(0, 50), 9);
        Due.tell(moot, 1, 20, "hurt ear 9;");
        Due.is("sum where the law has no such hurt", moot.sum(0, 50), -1);
    }
}
