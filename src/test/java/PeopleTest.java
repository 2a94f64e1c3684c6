/** Promises 7 to 11: PEOPLE, DEGREE, RANKS as known, and the DEAD. */
public final class PeopleTest {
    public static void main(String[] args) {
        persons();
        degrees();
        chain();
        ranks();
        ranksAsKnown();
        sixtyTolds();
        deaths();
        Due.finish();
    }

    private static void persons() {
        BloodPrice moot = new BloodPrice();
        Due.is("person(-1, -1, -1)", moot.person(-1, -1, -1), -1);
        Due.is("person(4, -1, -1)", moot.person(4, -1, -1), -1);
        Due.is("person(0, 0, -1)", moot.person(0, 0, -1), -1);
        Due.is("person(0, -1, 0)", moot.person(0, -1, 0), -1);
        Due.is("person(0, -2, -1)", moot.person(0, -2, -1), -1);
        Due.is("person(0, -1, -2)", moot.person(0, -1, -2), -1);
        Due.is("person(0, -1, MAX)", moot.person(0, -1, Integer.MAX_VALUE), -1);
        Due.is("about(1)", moot.about(1), 0);
        for (int i = 0; i < 20; i++) {
            Due.is("person", moot.person(i % 4, i - 1, -1), i);
        }
        Due.is("21st person", moot.person(0, -1, -1), -1);
        Due.is("about(1)", moot.about(1), 20);
    }

    private static void degrees() {
        BloodPrice moot = new BloodPrice();
        moot.person(0, -1, -1);
        moot.person(1, -1, -1);
        Due.is("degree(0, 1)", moot.degree(0, 1), -1);
        moot.person(2, 0, 1);
        Due.is("degree(0, 1) by a child", moot.degree(0, 1), 2);
        moot.person(0, -1, 2);
        moot.person(0, -1, 1);
        moot.person(0, -1, -1);
        moot.person(0, 3, 5);
        Due.is("degree(3, 0)", moot.degree(3, 0), 2);
        Due.is("degree(0, 3)", moot.degree(0, 3), 2);
        Due.is("degree(4, 3)", moot.degree(4, 3), 3);
        Due.is("degree(4, 0)", moot.degree(4, 0), 3);
        Due.is("degree(4, 5)", moot.degree(4, 5), 5);
        Due.is("degree(6, 6)", moot.degree(6, 6), 0);
        Due.is("degree(7, 7)", moot.degree(7, 7), -1);
        Due.is("degree(0, 7)", moot.degree(0, 7), -1);
        Due.is("degree(-1, 0)", moot.degree(-1, 0), -1);
        Due.is("degree(-1, -1)", moot.degree(-1, -1), -1);
        Due.is("degree(MAX, MIN)", moot.degree(Integer.MAX_VALUE, Integer.MIN_VALUE), -1);
    }

    private static void chain() {
        BloodPrice moot = new BloodPrice();
        for (int i = 0; i < 20; i++) {
            moot.person(0, i - 1, -1);
        }
        Due.is("degree(0, 19)", moot.degree(0, 19), 19);
        Due.is("degree(19, 0)", moot.degree(19, 0), 19);
        Due.is("degree(7, 12)", moot.degree(7, 12), 5);
    }

    private static void ranks() {
        BloodPrice moot = new BloodPrice();
        Due.is("rank of nobody", moot.rank(0, 1, 0), -1);
        Due.is("ranked of nobody", moot.ranked(0, 0, 0), -1);
        moot.person(0, -1, -1);
        Due.is("ranked at first", moot.ranked(0, 0, 0), 0);
        Due.is("rank -1", moot.rank(0, -1, 0), -1);
        Due.is("rank 4", moot.rank(0, 4, 0), -1);
        Due.is("rank from -1", moot.rank(0, 1, -1), -1);
        Due.is("rank from 100001", moot.rank(0, 1, 100001), -1);
        Due.is("rank of -1", moot.rank(-1, 1, 0), -1);
        Due.is("rank of 1", moot.rank(1, 1, 0), -1);
        Due.is("about(2)", moot.about(2), 0);
        Due.is("rank from 100000", moot.rank(0, 3, 100000), 1);
        Due.is("ranked on 99999", moot.ranked(0, 99999, 0), 0);
        Due.is("ranked on 100000", moot.ranked(0, 100000, 0), 3);
        Due.is("ranked of -1", moot.ranked(-1, 0, 0), -1);
        Due.is("ranked of 1", moot.ranked(1, 0, 0), -1);
    }

    private static void ranksAsKnown() {
        BloodPrice moot = new BloodPrice();
        moot.person(0, -1, -1);
        moot.person(0, -1, -1);
        moot.later(10);
        moot.rank(0, 1, 5);
        moot.rank(1, 3, 0);
        moot.later(10);
        moot.rank(0, 2, 5);
        moot.rank(0, 3, 3);
        moot.later(10);
        moot.rank(0, 0, 40);
        Due.is("known too early", moot.ranked(0, 5, 9), 0);
        Due.is("known on 10", moot.ranked(0, 5, 10), 1);
        Due.is("known on 19", moot.ranked(0, 100, 19), 1);
        Due.is("known on 20, told last of like days", moot.ranked(0, 5, 20), 2);
        Due.is("known on 20, an earlier day", moot.ranked(0, 4, 20), 3);
        Due.is("known on 20, before all", moot.ranked(0, 2, 20), 0);
        Due.is("known on 10, a day that was told later", moot.ranked(0, 4, 10), 0);
        Due.is("known on 30, from 40 on", moot.ranked(0, 40, 30), 0);
        Due.is("known on 30, on 39", moot.ranked(0, 39, 30), 2);
        Due.is("known on 29, on 40", moot.ranked(0, 40, 29), 2);
        Due.is("known ever", moot.ranked(0, Integer.MAX_VALUE, Integer.MAX_VALUE), 0);
        Due.is("known never", moot.ranked(0, 5, Integer.MIN_VALUE), 0);
        Due.is("another one's", moot.ranked(1, 5, 30), 3);
    }

    private static void sixtyTolds() {
        BloodPrice moot = new BloodPrice();
        moot.person(0, -1, -1);
        for (int i = 1; i <= 60; i++) {
            Due.is("rank", moot.rank(0, i % 4, i), i);
        }
        Due.is("61st rank", moot.rank(0, 1, 60), -1);
        Due.is("about(2)", moot.about(2), 60);
        Due.is("ranked", moot.ranked(0, 60, 0), 0);
        Due.is("ranked", moot.ranked(0, 59, 0), 3);
    }

    private static void deaths() {
        BloodPrice moot = new BloodPrice();
        Due.is("dead(0, 0) of nobody", moot.dead(0, 0), false);
        moot.person(0, -1, -1);
        moot.person(0, -1, -1);
        Due.is("dead(0, -1)", moot.dead(0, -1), false);
        Due.is("dead(0, 100001)", moot.dead(0, 100001), false);
        Due.is("dead(-1, 0)", moot.dead(-1, 0), false);
        Due.is("dead(2, 0)", moot.dead(2, 0), false);
        Due.is("dead(0, 0)", moot.dead(0, 0), true);
        Due.is("dead(0, 0) again", moot.dead(0, 0), false);
        Due.is("dead(0, 7) again", moot.dead(0, 7), false);
        Due.is("dead(1, 100000)", moot.dead(1, 100000), true);
        Due.is("dead(1, 3) again", moot.dead(1, 3), false);
    }
}
