/** The bounds that are days: "not above", "of like ones the one told last", "not after now", "from .. on", "from .. to". */
public final class DayBoundsTest {
    private static final long HAND = Twins.HAND;

    public static void main(String[] args) {
        lawWithTheGreatestDayNotAbove();
        lawToldLastOfLikeDays();
        lawOfAHurtsDay();
        lawsAreKnownBefore();
        rankWithTheGreatestDayNotAbove();
        rankToldLastOfLikeDays();
        rankToldOnKOrBefore();
        rankOnTheDayOfTheHurt();
        deadFromADayOn();
        truceFromADayToADay();
        truceBetweenBothFolk();
        hurtNotAfterNow();
        clearedFromThatDayOn();
        helpersOfTheDay();
        judgedOnceOnADay();
        rateOnTheDay();
        owedFromJudgedToNow();
        Due.finish();
    }

    /** PEOPLE 0 and 1 of FOLK 0 and 2 of FOLK 1, with a LAW of both from day 0 on. */
    private static BloodPrice moot(String text) {
        BloodPrice moot = new BloodPrice();
        moot.person(0, -1, -1);
        moot.person(0, -1, -1);
        moot.person(1, -1, -1);
        Due.is("law", Due.tell(moot, 0, 0, text), 1);
        Due.is("law", Due.tell(moot, 1, 0, text), 1);
        return moot;
    }

    private static void lawWithTheGreatestDayNotAbove() {
        BloodPrice moot = new BloodPrice();
        int[] from = {50, 100000, 0, 51};
        for (int day : from) {
            moot.law(2, day);
        }
        int[] asked = {Integer.MIN_VALUE, -1, 0, 49, 50, 51, 52, 99999, 100000, 100001, Integer.MAX_VALUE};
        int[] due = {-1, -1, 2, 2, 0, 3, 3, 3, 1, 1, 1};
        for (int i = 0; i < asked.length; i++) {
            Due.is("lawOn(2, " + asked[i] + ")", moot.lawOn(2, asked[i]), due[i]);
            Due.is("lawOn(1, " + asked[i] + ")", moot.lawOn(1, asked[i]), -1);
            Due.is("lawOn(3, " + asked[i] + ")", moot.lawOn(3, asked[i]), -1);
        }
    }

    private static void lawToldLastOfLikeDays() {
        BloodPrice moot = new BloodPrice();
        for (int i = 0; i < 4; i++) {
            moot.law(0, 7);
            Due.is("lawOn(0, 7)", moot.lawOn(0, 7), i);
            Due.is("lawOn(0, 8)", moot.lawOn(0, 8), i);
            Due.is("lawOn(0, 6)", moot.lawOn(0, 6), -1);
        }
        moot.law(1, 0);
        moot.law(1, 0);
        moot.law(1, 9);
        moot.law(1, 0);
        Due.is("lawOn(1, 0)", moot.lawOn(1, 0), 3);
        Due.is("lawOn(1, 8)", moot.lawOn(1, 8), 3);
        Due.is("lawOn(1, 9)", moot.lawOn(1, 9), 2);
    }

    private static void lawOfAHurtsDay() {
        BloodPrice moot = new BloodPrice();
        moot.person(0, -1, -1);
        moot.person(1, -1, -1);
        Due.is("law", Due.tell(moot, 1, 5, "hurt hand 1;"), 1);
        Due.is("law", Due.tell(moot, 1, 7, "hurt hand 2;"), 2);
        Due.is("law", Due.tell(moot, 0, 0, "hurt hand 3;"), 1);
        moot.later(8);
        int[] due = {-1, 1, 1, 2, 2};
        for (int day = 4; day <= 8; day++) {
            moot.hurt(0, 1, HAND, day, 0, false);
            Due.is("sum of a hurt on " + day, moot.sum(day - 4, 8), due[day - 4]);
        }
        moot.hurt(1, 0, HAND, 0, 0, false);
        Due.is("by the law of who was hurt", moot.sum(5, 8), 3);
    }

    private static void lawsAreKnownBefore() {
        BloodPrice moot = moot("hurt hand 1;");
        moot.later(20);
        moot.hurt(0, 1, HAND, 10, 0, false);
        Due.is("law", Due.tell(moot, 0, 10, "hurt hand 2;"), 2);
        Due.is("known before it was told", moot.sum(0, 0), 2);
        Due.is("known long before", moot.sum(0, Integer.MIN_VALUE), 2);
        Due.is("known since", moot.sum(0, 100000), 2);
        Due.is("law from the next day on", Due.tell(moot, 0, 11, "hurt hand 3;"), 3);
        Due.is("doesn't count", moot.sum(0, 20), 2);
    }

    private static void rankWithTheGreatestDayNotAbove() {
        BloodPrice moot = moot("");
        moot.rank(0, 2, 50);
        moot.rank(0, 1, 0);
        moot.rank(0, 3, 51);
        int[] asked = {Integer.MIN_VALUE, -1, 0, 49, 50, 51, 100000, Integer.MAX_VALUE};
        int[] due = {0, 0, 1, 1, 2, 3, 3, 3};
        for (int i = 0; i < asked.length; i++) {
            Due.is("ranked(0, " + asked[i] + ", 0)", moot.ranked(0, asked[i], 0), due[i]);
            Due.is("ranked(1, " + asked[i] + ", 0)", moot.ranked(1, asked[i], 0), 0);
        }
    }

    private static void rankToldLastOfLikeDays() {
        BloodPrice moot = moot("");
        moot.rank(0, 3, 5);
        Due.is("the first", moot.ranked(0, 5, 0), 3);
        moot.rank(0, 1, 5);
        Due.is("the second", moot.ranked(0, 5, 0), 1);
        moot.rank(1, 2, 5);
        Due.is("another one's", moot.ranked(0, 5, 0), 1);
        moot.rank(0, 2, 4);
        Due.is("of a day ahead", moot.ranked(0, 5, 0), 1);
        moot.later(1);
        moot.rank(0, 0, 5);
        Due.is("the last", moot.ranked(0, 5, 1), 0);
        Due.is("as known before", moot.ranked(0, 5, 0), 1);
    }

    private static void rankToldOnKOrBefore() {
        BloodPrice moot = moot("");
        moot.later(10);
        moot.rank(0, 2, 0);
        moot.later(1);
        moot.rank(0, 3, 0);
        int[] asked = {Integer.MIN_VALUE, -1, 0, 9, 10, 11, 12, Integer.MAX_VALUE};
        int[] due = {0, 0, 0, 0, 2, 3, 3, 3};
        for (int i = 0; i < asked.length; i++) {
            Due.is("ranked(0, 0, " + asked[i] + ")", moot.ranked(0, 0, asked[i]), due[i]);
        }
    }

    private static void rankOnTheDayOfTheHurt() {
        BloodPrice moot = moot("hurt hand 0; when rank do add 1; when other do add 10;");
        moot.later(10);
        moot.rank(1, 1, 5);
        moot.rank(0, 1, 6);
        int[] due = {0, 1, 11};
        for (int day = 4; day <= 6; day++) {
            moot.hurt(0, 1, HAND, day, 0, false);
            Due.is("sum of a hurt on " + day, moot.sum(day - 4, 10), due[day - 4]);
            Due.is("as known on 9", moot.sum(day - 4, 9), 0);
        }
    }

    private static void deadFromADayOn() {
        BloodPrice moot = moot("hurt hand 100; share 1 1 0 0;");
        moot.person(0, 0, -1);
        moot.later(10);
        for (int day = 4; day <= 6; day++) {
            moot.hurt(0, 2, HAND, day, 0, false);
            moot.hurt(2, 0, HAND, day, 0, false);
        }
        Due.is("dead(3, 5)", moot.dead(3, 5), true);
        int[] due = {50, 0, 0};
        for (int i = 0; i < due.length; i++) {
            Due.is("pays, hurt on " + (4 + i), moot.pays(2 * i, 3, 10), due[i]);
            Due.is("pays before it was told", moot.pays(2 * i, 3, 0), due[i]);
            Due.is("who did it pays", moot.pays(2 * i, 0, 10), 100 - due[i]);
            Due.is("has, hurt on " + (4 + i), moot.has(2 * i + 1, 3, 10), due[i]);
            Due.is("who was hurt has", moot.has(2 * i + 1, 0, 10), 100 - due[i]);
        }
    }

    private static void truceFromADayToADay() {
        BloodPrice moot = moot("hurt hand 0; when truce = 1 do add 1; when truce = 0 do add 10;");
        moot.later(10);
        moot.truce(0, 1, 5, 7);
        int[] due = {0, 1, 1, 1, 0};
        for (int day = 4; day <= 8; day++) {
            moot.hurt(0, 2, HAND, day, 0, false);
            Due.is("of a hurt on " + day, moot.of(day - 4, 3), due[day - 4]);
            Due.is("sum of a hurt on " + day, moot.sum(day - 4, 10), due[day - 4] == 1 ? 1 : 10);
        }
        moot.truce(0, 1, 8, 8);
        Due.is("of one day", moot.of(4, 3), 1);
        Due.is("not the day ahead", moot.of(0, 3), 0);
    }

    private static void truceBetweenBothFolk() {
        for (int a = 0; a < 4; a++) {
            for (int b = 0; b < 4; b++) {
                BloodPrice moot = moot("");
                moot.hurt(0, 2, HAND, 0, 0, false);
                moot.hurt(2, 0, HAND, 0, 0, false);
                moot.hurt(0, 1, HAND, 0, 0, false);
                moot.truce(a, b, 0, 0);
                int between = a + b == 1 ? 1 : 0;
                Due.is("between 0 and 1: " + a + ", " + b, moot.of(0, 3), between);
                Due.is("between 1 and 0: " + a + ", " + b, moot.of(1, 3), between);
                Due.is("within 0: " + a + ", " + b, moot.of(2, 3), a + b == 0 ? 1 : 0);
            }
        }
    }

    private static void hurtNotAfterNow() {
        BloodPrice moot = moot("hurt hand 5;");
        Due.is("tomorrow", moot.hurt(0, 1, HAND, 1, 0, false), -1);
        Due.is("today", moot.hurt(0, 1, HAND, 0, 0, false), 0);
        Due.is("before 0", moot.hurt(0, 1, HAND, -1, 0, false), -1);
        moot.later(1000);
        Due.is("after now", moot.hurt(0, 1, HAND, 1001, 0, false), -1);
        Due.is("now", moot.hurt(0, 1, HAND, 1000, 0, false), 1);
        Due.is("long ago", moot.hurt(0, 1, HAND, 0, 0, false), 2);
        Due.is("about(4)", moot.about(4), 3);
    }

    private static void clearedFromThatDayOn() {
        BloodPrice moot = moot("hurt hand 5;");
        moot.hurt(0, 1, HAND, 0, 0, false);
        moot.later(10);
        Due.is("oath", moot.oath(0, 0), 1);
        moot.later(5);
        int[] asked = {Integer.MIN_VALUE, -1, 0, 9, 10, 11, 15, Integer.MAX_VALUE};
        for (int k : asked) {
            int due = k < 10 ? 5 : 0;
            Due.is("sum(0, " + k + ")", moot.sum(0, k), due);
            Due.is("pays(0, 0, " + k + ")", moot.pays(0, 0, k), due);
            Due.is("has(0, 1, " + k + ")", moot.has(0, 1, k), due);
        }
        Due.is("of(0, 4)", moot.of(0, 4), 10);
        Due.is("judge", moot.judge(0), 0);
        Due.is("owed", moot.owed(0, 15), 0);
    }

    private static void helpersOfTheDay() {
        for (int day = 9; day <= 11; day++) {
            BloodPrice moot = moot("hurt hand 5; need 1 rank 1;");
            moot.hurt(0, 1, HAND, 0, 0, false);
            moot.later(10);
            moot.rank(2, 1, day);
            Due.is("of rank 1 from " + day + " on", moot.oath(0, 1 << 2), day <= 10 ? 1 : 0);
            moot = moot("hurt hand 5; need 1 rank 0;");
            moot.hurt(0, 1, HAND, 0, 0, false);
            moot.later(10);
            moot.dead(2, day);
            Due.is("dead from " + day + " on", moot.oath(0, 1 << 2), day <= 10 ? 0 : 1);
        }
    }

    private static void judgedOnceOnADay() {
        BloodPrice moot = moot("hurt hand 5; when rank do add 1;");
        moot.hurt(0, 1, HAND, 0, 0, false);
        moot.later(3);
        moot.rank(1, 1, 0);
        Due.is("judge, by what is known on the day", moot.judge(0), 6);
        Due.is("of(0, 5)", moot.of(0, 5), 3);
        moot.later(1);
        Due.is("judge again", moot.judge(0), -1);
        Due.is("of(0, 5)", moot.of(0, 5), 3);
    }

    private static void rateOnTheDay() {
        BloodPrice moot = moot("hurt hand 100; terms 1 days 400;");
        moot.hurt(0, 1, HAND, 0, 0, false);
        moot.judge(0);
        Due.is("none told", moot.pay(0, 2, 10), 0);
        moot.rate(2, 1);
        Due.is("told on the day", moot.pay(0, 2, 10), 10);
        moot.rate(2, 2);
        Due.is("told last on the day", moot.pay(0, 2, 10), 20);
        moot.rate(1, 9);
        Due.is("another kind's", moot.pay(0, 2, 10), 20);
        moot.later(7);
        Due.is("told before", moot.pay(0, 2, 10), 20);
        moot.rate(2, 0);
        Due.is("0 from now on", moot.pay(0, 2, 10), 0);
        Due.is("what was paid stays", moot.owed(0, 7), 30);
        Due.is("what was paid stays", moot.owed(0, 6), 50);
    }

    private static void owedFromJudgedToNow() {
        BloodPrice moot = moot("hurt hand 5; terms 1 days 400;");
        moot.later(10);
        moot.hurt(0, 1, HAND, 0, 0, false);
        Due.is("not judged", moot.owed(0, 10), -2000000001);
        moot.judge(0);
        Due.is("the day ahead of it", moot.owed(0, 9), -2000000001);
        Due.is("the day itself", moot.owed(0, 10), 5);
        Due.is("the day behind now", moot.owed(0, 11), -2000000001);
        moot.later(2);
        Due.is("the day ahead of it", moot.owed(0, 9), -2000000001);
        Due.is("the day itself", moot.owed(0, 10), 5);
        Due.is("between", moot.owed(0, 11), 5);
        Due.is("now", moot.owed(0, 12), 5);
        Due.is("the day behind now", moot.owed(0, 13), -2000000001);
        Due.is("day 0", moot.owed(0, 0), -2000000001);
        Due.is("day -1", moot.owed(0, -1), -2000000001);
        Due.is("the last day of all", moot.owed(0, 100000), -2000000001);
    }
}
