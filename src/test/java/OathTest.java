/** Promise 16: oaths, and what a CLEARED CASE comes to. */
public final class OathTest {
    private static final long HAND = Due.name("hand");

    public static void main(String[] args) {
        noOath();
        helpers();
        helpersWhoAreNotThere();
        ranksOfTheDay();
        deaths();
        cleared();
        clearedWithoutSum();
        Due.finish();
    }

    /** 2 did it to 1; 0 is its mother, 3 its child and 4 its grandchild; 5 and 6 are strangers of other FOLK. */
    private static BloodPrice moot(String text) {
        BloodPrice moot = new BloodPrice();
        moot.person(2, -1, -1);
        moot.person(1, -1, -1);
        moot.person(2, 0, -1);
        moot.person(2, -1, 2);
        moot.person(2, 3, -1);
        moot.person(3, -1, -1);
        moot.person(0, -1, -1);
        if (!text.isEmpty()) {
            Due.is("law", Due.tell(moot, 1, 0, text), 1);
        }
        moot.later(10);
        moot.hurt(2, 1, HAND, 5, 0, false);
        return moot;
    }

    private static void noOath() {
        BloodPrice moot = moot("");
        Due.is("without a law", moot.oath(0, 0), -1);
        Due.is("oath(-1)", moot.oath(-1, 0), -1);
        Due.is("oath(1)", moot.oath(1, 0), -1);
        moot = moot("hurt hand 60; need 1 rank 0;");
        moot.judge(0);
        Due.is("of a judged one", moot.oath(0, 1 << 5), -1);
    }

    private static void helpers() {
        String law = "hurt hand 60; need 2 rank 0;";
        Due.is("none", moot(law).oath(0, 0), 0);
        Due.is("one of two", moot(law).oath(0, 1 << 5), 0);
        Due.is("just two", moot(law).oath(0, 1 << 5 | 1 << 6), 1);
        Due.is("a grandchild", moot(law).oath(0, 1 << 5 | 1 << 4), 1);
        Due.is("more than two", moot(law).oath(0, 1 << 5 | 1 << 6 | 1 << 4), 1);
        Due.is("a child among them", moot(law).oath(0, 1 << 5 | 1 << 6 | 1 << 3), 0);
        Due.is("a mother among them", moot(law).oath(0, 1 << 5 | 1 << 6 | 1), 0);
        Due.is("who did it among them", moot(law).oath(0, 1 << 5 | 1 << 6 | 1 << 2), 0);
        Due.is("who was hurt among them", moot(law).oath(0, 1 << 5 | 1 << 6 | 1 << 1), 0);
        Due.is("none is needed", moot("hurt hand 60;").oath(0, 0), 1);
        Due.is("none is needed, a wrong one comes", moot("hurt hand 60;").oath(0, 2), 0);
    }

    private static void helpersWhoAreNotThere() {
        String law = "hurt hand 60; need 1 rank 0;";
        Due.is("bit 7", moot(law).oath(0, 1 << 5 | 1 << 7), 0);
        Due.is("bit 19", moot(law).oath(0, 1 << 5 | 1 << 19), 0);
        Due.is("bit 31", moot(law).oath(0, 1 << 5 | 1 << 31), 0);
        Due.is("all bits", moot(law).oath(0, -1), 0);
    }

    private static void ranksOfTheDay() {
        BloodPrice moot = moot("hurt hand 60; need 1 rank 2;");
        Due.is("of rank 0", moot.oath(0, 1 << 5), 0);
        moot.rank(5, 1, 0);
        Due.is("of rank 1", moot.oath(0, 1 << 5), 0);
        moot.rank(5, 2, 11);
        Due.is("of rank 2 from tomorrow on", moot.oath(0, 1 << 5), 0);
        moot.rank(6, 3, 0);
        moot.rank(6, 0, 10);
        Due.is("of rank 3 up to yesterday", moot.oath(0, 1 << 6), 0);
        moot.later(1);
        Due.is("of rank 2 now", moot.oath(0, 1 << 5), 1);
        Due.is("of(0, 4)", moot.of(0, 4), 11);
    }

    private static void deaths() {
        BloodPrice moot = moot("hurt hand 60; need 1 rank 0;");
        moot.dead(5, 10);
        moot.dead(6, 11);
        Due.is("dead today", moot.oath(0, 1 << 5), 0);
        Due.is("dead tomorrow", moot.oath(0, 1 << 6), 1);
    }

    private static void cleared() {
        BloodPrice moot = moot("hurt hand 60; need 1 rank 0;");
        Due.is("of(0, 4)", moot.of(0, 4), -1);
        Due.is("oath", moot.oath(0, 1 << 5), 1);
        Due.is("of(0, 4)", moot.of(0, 4), 10);
        Due.is("oath again", moot.oath(0, 1 << 5), -1);
        Due.is("sum on 9", moot.sum(0, 9), 60);
        Due.is("sum on 10", moot.sum(0, 10), 0);
        Due.is("sum on 11", moot.sum(0, 11), 0);
        Due.is("pays on 9", moot.pays(0, 2, 9), 60);
        Due.is("pays on 10", moot.pays(0, 2, 10), 0);
        Due.is("has on 10", moot.has(0, 1, 10), 0);
        Due.is("judge", moot.judge(0), 0);
        Due.is("owed", moot.owed(0, 10), 0);
    }

    private static void clearedWithoutSum() {
        BloodPrice moot = moot("hurt foot 60;");
        Due.is("oath", moot.oath(0, 0), 1);
        Due.is("of(0, 4)", moot.of(0, 4), 10);
        Due.is("sum stays none", moot.sum(0, 10), -1);
        Due.is("judge", moot.judge(0), -1);
        Due.is("of(0, 5)", moot.of(0, 5), -1);
        Due.is("pays", moot.pays(0, 2, 10), -1);
    }
}
