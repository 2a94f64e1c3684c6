/** Promises 1 to 3: a new object, feed and end. */
public final class TapeTest {
    public static void main(String[] args) {
        newObject();
        feedFillsUpTo700();
        feedPutsTheHighestByteFirst();
        endCuts();
        Due.finish();
    }

    private static void newObject() {
        BloodPrice moot = new BloodPrice();
        for (int what = 0; what <= 7; what++) {
            Due.is("about(" + what + ")", moot.about(what), 0);
        }
        for (int folk = 0; folk < 4; folk++) {
            Due.is("about", moot.about(10 + folk), 0);
            Due.is("lawOn", moot.lawOn(folk, 0), -1);
        }
        Due.is("fault(0)", moot.fault(0), 0);
        Due.is("fault(1)", moot.fault(1), -1);
        Due.is("degree", moot.degree(0, 0), -1);
        Due.is("sum", moot.sum(0, 0), -1);
        Due.is("NONE", BloodPrice.NONE, -1);
    }

    private static void feedFillsUpTo700() {
        BloodPrice moot = new BloodPrice();
        for (int i = 1; i <= 35; i++) {
            Due.is("feed " + i, moot.feed(1, 2, 3, 4, 5), 20 * i);
        }
        Due.is("feed beyond 700", moot.feed(1, 2, 3, 4, 5), -1);
        Due.is("about(7)", moot.about(7), 700);
        Due.is("end(681)", moot.end(681), 681);
        Due.is("feed to 701", moot.feed(1, 2, 3, 4, 5), -1);
        Due.is("about(7)", moot.about(7), 681);
        Due.is("end(680)", moot.end(680), 680);
        Due.is("feed to 700", moot.feed(1, 2, 3, 4, 5), 700);
    }

    private static void feedPutsTheHighestByteFirst() {
        BloodPrice moot = new BloodPrice();
        moot.feed(0x68757274, 0x20612035, 0x3b687572, 0x74206220, 0x363b2020);
        Due.is("law", moot.law(0, 0), 1);
        moot.feed(0x68757274, 0x20612035, 0x3b687572, 0x74206220, 0x363bff20);
        Due.is("law with a byte 255", moot.law(0, 0), -1);
        Due.is("fault(0)", moot.fault(0), 1);
        Due.is("fault(1)", moot.fault(1), 18);
    }

    private static void endCuts() {
        BloodPrice moot = new BloodPrice();
        Due.is("end(0)", moot.end(0), 0);
        Due.is("end(1)", moot.end(1), -1);
        moot.feed(0, 0, 0, 0, 0);
        Due.is("end(21)", moot.end(21), -1);
        Due.is("end(-1)", moot.end(-1), -1);
        Due.is("end(MIN)", moot.end(Integer.MIN_VALUE), -1);
        Due.is("end(MAX)", moot.end(Integer.MAX_VALUE), -1);
        Due.is("about(7)", moot.about(7), 20);
        Due.is("end(20)", moot.end(20), 20);
        Due.is("end(7)", moot.end(7), 7);
        Due.is("end(8)", moot.end(8), -1);
        Due.is("feed", moot.feed(0, 0, 0, 0, 0), 27);
    }
}
