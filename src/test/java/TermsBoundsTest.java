/** TERMS: the rest of the cut, paid on a TERM's day or the day behind it, what is over, and the most there can be. */
public final class TermsBoundsTest {
    private static final long HAND = Twins.HAND;

    public static void main(String[] args) {
        restGoesToTheFirst();
        fewerThanTerms();
        daysOfTerms();
        paidByTheEndOfItsDay();
        paidBehindItsDay();
        overGoesToTheNext();
        leftComesToTheNext();
        lastStaysOwed();
        oneTooFewOneTooMany();
        moreThanIsOwedInAll();
        longestTerms();
        mostOwedAndMostPaid();
        laterPaymentsDoNotChangeEarlierDays();
        judgedOnTheLastDay();
        Due.finish();
    }

    /** A CASE 0 that was JUDGED on a day, and a BEAST of KIND 0 that is worth 1. */
    private static BloodPrice judged(int day, String text, int due) {
        BloodPrice moot = new BloodPrice();
        moot.person(0, -1, -1);
        moot.person(0, -1, -1);
        Due.is("law", Due.tell(moot, 0, 0, text), 1);
        moot.later(day);
        moot.hurt(0, 1, HAND, 0, 0, false);
        moot.rate(0, 1);
        Due.is("judge", moot.judge(0), due);
        return moot;
    }

    private static void owes(BloodPrice moot, int day, int due) {
        Due.is("owed(0, " + day + ")", moot.owed(0, day), due);
    }

    private static void pays(BloodPrice moot, int beasts) {
        Due.is("pay", moot.pay(0, 0, beasts), beasts);
    }

    private static void restGoesToTheFirst() {
        int[] sums = {6, 7, 8, 11, 12};
        int[] first = {1, 2, 3, 6, 2};
        for (int i = 0; i < sums.length; i++) {
            BloodPrice moot = judged(0, "hurt hand " + sums[i] + "; terms 6 days 1;", sums[i]);
            moot.later(3);
            owes(moot, 0, sums[i]);
            owes(moot, 1, sums[i]);
            owes(moot, 2, sums[i] + first[i]);
            owes(moot, 3, sums[i] + first[i] + 2 * first[i] + sums[i] / 6);
        }
    }

    private static void fewerThanTerms() {
        BloodPrice moot = judged(0, "hurt hand 5; terms 6 days 1;", 5);
        moot.later(8);
        int[] due = {5, 5, 10, 20, 40, 80, 160, 320, 320};
        for (int day = 0; day < due.length; day++) {
            owes(moot, day, due[day]);
        }
        moot = judged(0, "hurt hand 0; terms 6 days 1;", 0);
        moot.later(8);
        owes(moot, 0, 0);
        owes(moot, 8, 0);
    }

    private static void daysOfTerms() {
        BloodPrice moot = judged(10, "hurt hand 100; terms 2 days 3;", 100);
        moot.later(10);
        int[] due = {100, 100, 100, 100, 150, 150, 150, 300, 300, 300, 300};
        for (int day = 10; day <= 20; day++) {
            owes(moot, day, due[day - 10]);
        }
        moot = judged(10, "hurt hand 100; terms 1 days 1;", 100);
        moot.later(2);
        owes(moot, 10, 100);
        owes(moot, 11, 100);
        owes(moot, 12, 200);
    }

    private static void paidByTheEndOfItsDay() {
        BloodPrice moot = judged(0, "hurt hand 100; terms 2 days 5;", 100);
        moot.later(5);
        pays(moot, 50);
        owes(moot, 5, 50);
        moot.later(1);
        owes(moot, 6, 50);
        owes(moot, 4, 100);
        moot.later(4);
        pays(moot, 50);
        owes(moot, 10, 0);
        moot.later(1);
        owes(moot, 11, 0);
        owes(moot, 9, 50);
    }

    private static void paidBehindItsDay() {
        BloodPrice moot = judged(0, "hurt hand 100; terms 2 days 5;", 100);
        moot.later(6);
        owes(moot, 6, 150);
        pays(moot, 50);
        owes(moot, 6, 100);
        owes(moot, 5, 100);
        moot.later(4);
        owes(moot, 10, 100);
        moot.later(1);
        owes(moot, 11, 200);
    }

    private static void overGoesToTheNext() {
        BloodPrice moot = judged(0, "hurt hand 100; terms 4 days 5;", 100);
        pays(moot, 60);
        moot.later(21);
        int[] day = {0, 5, 6, 10, 11, 15, 16, 20, 21};
        int[] due = {40, 40, 40, 40, 40, 40, 55, 55, 110};
        for (int i = 0; i < day.length; i++) {
            owes(moot, day[i], due[i]);
        }
    }

    private static void leftComesToTheNext() {
        BloodPrice moot = judged(0, "hurt hand 100; terms 4 days 5;", 100);
        moot.later(5);
        pays(moot, 24);
        moot.later(1);
        owes(moot, 6, 77);
        pays(moot, 26);
        moot.later(5);
        owes(moot, 11, 52);
        pays(moot, 27);
        owes(moot, 11, 25);
        moot.later(5);
        owes(moot, 16, 25);
        moot.later(5);
        owes(moot, 21, 50);
    }

    private static void lastStaysOwed() {
        BloodPrice moot = judged(0, "hurt hand 10; terms 1 days 2;", 10);
        moot.later(3);
        owes(moot, 3, 20);
        moot.later(1000);
        owes(moot, 1003, 20);
        pays(moot, 1);
        owes(moot, 1003, 19);
        moot.later(1000);
        owes(moot, 2003, 19);
        pays(moot, 19);
        owes(moot, 2003, 0);
        pays(moot, 1);
        owes(moot, 2003, -1);
        owes(moot, 2002, 19);
    }

    private static void oneTooFewOneTooMany() {
        for (int paid = 49; paid <= 51; paid++) {
            BloodPrice moot = judged(0, "hurt hand 100; terms 2 days 5;", 100);
            pays(moot, paid);
            moot.later(6);
            owes(moot, 6, paid == 49 ? 52 : 100 - paid);
        }
        for (int paid = 99; paid <= 101; paid++) {
            BloodPrice moot = judged(0, "hurt hand 100; terms 1 days 5;", 100);
            moot.later(5);
            pays(moot, paid);
            owes(moot, 5, 100 - paid);
            moot.later(1);
            owes(moot, 6, paid == 99 ? 2 : 100 - paid);
        }
    }

    private static void moreThanIsOwedInAll() {
        BloodPrice moot = judged(0, "hurt hand 100; terms 3 days 5;", 100);
        pays(moot, 101);
        owes(moot, 0, -1);
        moot.later(16);
        for (int day = 0; day <= 16; day++) {
            owes(moot, day, -1);
        }
        pays(moot, 1000);
        owes(moot, 16, -1001);
        owes(moot, 15, -1);
    }

    private static void longestTerms() {
        BloodPrice moot = judged(0, "hurt hand 600; terms 6 days 400;", 600);
        moot.later(1000);
        moot.later(1000);
        moot.later(401);
        owes(moot, 400, 600);
        owes(moot, 401, 700);
        owes(moot, 800, 700);
        owes(moot, 801, 1000);
        owes(moot, 2000, 100 * 30 + 200);
        owes(moot, 2001, 100 * 62 + 100);
        owes(moot, 2400, 100 * 62 + 100);
        owes(moot, 2401, 100 * 126);
    }

    private static void mostOwedAndMostPaid() {
        String most = "hurt hand 100000;" + "when 1 do double;".repeat(7) + "terms 6 days 1;";
        BloodPrice moot = judged(0, most, 10000000);
        moot.later(7);
        int due = (1666666 + 4) * 64 + 1666666 * 62;
        owes(moot, 7, due);
        moot.rate(3, 1000);
        for (int i = 1; i <= 60; i++) {
            Due.is("pay", moot.pay(0, 3, 1000), 1000000);
        }
        owes(moot, 7, due - 60000000);
        moot = judged(0, "hurt hand 0;", 0);
        moot.rate(3, 1000);
        for (int i = 1; i <= 60; i++) {
            Due.is("pay", moot.pay(0, 3, 1000), 1000000);
        }
        owes(moot, 0, -60000000);
    }

    private static void laterPaymentsDoNotChangeEarlierDays() {
        BloodPrice moot = judged(0, "hurt hand 100; terms 2 days 5;", 100);
        for (int day = 1; day <= 12; day++) {
            moot.later(1);
            pays(moot, 10);
        }
        int[] due = {100, 90, 80, 70, 60, 50, 40, 30, 20, 10, 0, -10, -20};
        for (int day = 0; day <= 12; day++) {
            owes(moot, day, due[day]);
        }
    }

    private static void judgedOnTheLastDay() {
        BloodPrice moot = new BloodPrice();
        moot.person(0, -1, -1);
        moot.person(0, -1, -1);
        Due.is("law", Due.tell(moot, 0, 100000, "hurt hand 100; terms 6 days 400;"), 1);
        for (int i = 0; i < 100; i++) {
            moot.later(1000);
        }
        moot.hurt(0, 1, HAND, 100000, 0, false);
        Due.is("judge", moot.judge(0), 100);
        owes(moot, 100000, 100);
        owes(moot, 99999, -2000000001);
        owes(moot, 100001, -2000000001);
        moot.rate(0, 1);
        pays(moot, 30);
        owes(moot, 100000, 70);
    }
}
