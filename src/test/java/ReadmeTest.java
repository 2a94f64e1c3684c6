/** The example of README.md, call by call. */
public final class ReadmeTest {
    public static void main(String[] args) {
        BloodPrice moot = new BloodPrice();
        Due.is("a text with a fault", tell(moot, 0, 0, "hurt hand;"), -1);
        Due.is("fault(0)", moot.fault(0), 2);
        Due.is("fault(1)", moot.fault(1), 9);
        Due.is("a text", tell(moot, 0, 0,
            "hurt hand 60; when rank > 1 do double; share 3 2 1 0; need 1 rank 1; terms 2 days 10;"), 1);
        int mother = moot.person(0, -1, -1);
        int doer = moot.person(0, mother, -1);
        int victim = moot.person(0, -1, -1);
        int helper = moot.person(1, -1, -1);
        Due.is("the helper, behind three others", helper, 3);
        long hand = 0x68616e64L;
        int first = moot.hurt(doer, victim, hand, 0, 0, false);
        int second = moot.hurt(doer, victim, hand, 0, 0, false);
        Due.is("second", second, 1);
        Due.is("later", moot.later(5), 5);
        Due.is("rank of the victim", moot.rank(victim, 2, 0), 1);
        Due.is("sum as known on 4", moot.sum(first, 4), 60);
        Due.is("sum as known on 5", moot.sum(first, 5), 120);
        Due.is("the mother pays", moot.pays(first, mother, 5), 40);
        Due.is("the doer pays", moot.pays(first, doer, 5), 80);
        Due.is("the victim has", moot.has(first, victim, 5), 120);
        Due.is("rank of the helper", moot.rank(helper, 1, 5), 2);
        Due.is("oath", moot.oath(second, 1 << helper), 1);
        Due.is("sum when cleared", moot.sum(second, 5), 0);
        Due.is("judge", moot.judge(first), 120);
        Due.is("rate", moot.rate(1, 7), true);
        Due.is("pay", moot.pay(first, 1, 3), 21);
        Due.is("owed on 5", moot.owed(first, 5), 99);
        Due.is("later", moot.later(11), 16);
        Due.is("owed on 16", moot.owed(first, 16), 138);
        Due.finish();
    }

    private static int tell(BloodPrice moot, int folk, int day, String text) {
        for (int at = 0; at < text.length(); at += 20) {
            int[] n = new int[5];
            for (int i = 0; i < 20; i++) {
                n[i / 4] = n[i / 4] << 8 | (at + i < text.length() ? text.charAt(at + i) : ' ');
            }
            moot.feed(n[0], n[1], n[2], n[3], n[4]);
        }
        moot.end(text.length());
        return moot.law(folk, day);
    }
}
