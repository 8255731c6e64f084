/** Promises 1, 2 and 27 at their bounds: a new object, feed, count. */
public final class TapeEdgesTest {
    public static void main(String[] args) {
        Due due = new Due();
        aNewObject(due);
        nothingIsShared(due);
        fedInOrder(due);
        bytesOfEachSize(due);
        aFullTape(due);
        counted(due);
        upTo512Calls(due);
        due.end();
    }

    private static void aNewObject(Due due) {
        due.sentence("promise 1: all BARE");
        InsuredFlame x = new InsuredFlame();
        for (int p = 0; p < 96; p++) {
            due.is("placeIs " + p + ", 0", x.placeIs(p % 12, p / 12, 0), 0);
        }
        due.sentence("THE TOWN: WHOLE (at first)");
        for (int p = 0; p < 96; p++) {
            due.is("placeIs " + p + ", 1", x.placeIs(p % 12, p / 12, 1), 0);
            due.is("placeIs " + p + ", 2", x.placeIs(p % 12, p / 12, 2), 0);
        }
        due.sentence("promise 1: no THINGS");
        due.is("count 1", x.count(1), 0);
        due.is("count 2", x.count(2), 0);
        for (int i = 0; i < 24; i++) {
            due.is("thingIs " + i, x.thingIs(i, 1), -1);
        }
        due.sentence("promise 1: no LAW");
        due.is("count 6", x.count(6), 0);
        due.sentence("promise 1: THE SEED 1");
        due.is("count 8", x.count(8), 1);
        due.sentence("WIND: 0 at first");
        due.is("count 5", x.count(5), 0);
        due.sentence("THE MINUTE (0 at first)");
        due.is("count 0", x.count(0), 0);
        due.sentence("a new object's tape is empty, nothing burns, nothing is lost, nothing is kept");
        due.is("count 7", x.count(7), 0);
        due.is("count 3", x.count(3), 0);
        due.is("count 4", x.count(4), 0);
        due.is("count 9", x.count(9), 0);
        due.is("undo", x.undo(), false);
        due.sentence("THE LAW (none at first): b 1, s 0, and no x");
        InsuredFlame y = Due.flame("3#", "*1,0", "");
        due.is("goes over to none", y.tried(100, 1), 1);
        due.is("does not go out at once", y.over(3), 3);
    }

    private static void nothingIsShared(Due due) {
        due.sentence("promise 1: a new object has nothing of one before it");
        InsuredFlame x = Due.flame("9#3#", "*0,0;!2;3@1,0;3=5", "s10(1=1);b9(1=1)");
        x.seed(77);
        x.minutes(4);
        x.keep();
        x.feed(1, 2, 3, 4, 5);
        InsuredFlame y = new InsuredFlame();
        int[] wants = {0, 0, 0, 0, 0, 0, 0, 0, 1, 0};
        for (int what = 0; what < wants.length; what++) {
            due.is("count " + what, y.count(what), wants[what]);
        }
        due.is("its place", y.placeIs(0, 0, 0), 0);
        due.is("nothing is kept in it", y.undo(), false);
        due.is("nor is the one before changed", x.count(0), 4);
    }

    /** 24 THINGS whose VALUES are 1 to 24: check tells where each byte of the tape stands. */
    private static InsuredFlame numbered() {
        InsuredFlame x = new InsuredFlame();
        for (int i = 0; i < 24; i += 4) {
            StringBuilder text = new StringBuilder();
            for (int k = i; k < i + 4; k++) {
                text.append(k == i ? "" : ";").append(k).append("@0,0;").append(k).append("=").append(k + 1);
            }
            Due.orders(x, text.toString());
        }
        return x;
    }

    private static void fedInOrder(Due due) {
        due.sentence("promise 2: twenty bytes come behind the tape, the highest of each int first");
        InsuredFlame x = numbered();
        due.is("first twenty", x.feed(0x01020304, 0x05060708, 0x090a0b0c, 0x0d0e0f10, 0x11121314), 20);
        due.is("behind them", x.feed(0x15161718, 0, 0, 0, 0), 40);
        due.is("check 24", x.check(24), -1);
        x.feed(0x01020304, 0x05060708, 0x090a0b0c, 0x0d0e0f10, 0x11121314);
        x.feed(0x18171615, 0, 0, 0, 0);
        due.is("check 24 of others behind", x.check(24), 20);
    }

    private static void bytesOfEachSize(Due due) {
        due.sentence("promise 2: bytes are 0 to 255");
        InsuredFlame x = new InsuredFlame();
        x.feed(0xff00ff00, 0, 0, 0, 0);
        due.is("255", x.insure(2, 0, 0), 510);
        x.feed(0x80008000, 0, 0, 0, 0);
        due.is("128", x.insure(2, 0, 0), 256);
        x.feed(0x7f007f00, 0, 0, 0, 0);
        due.is("127", x.insure(2, 0, 0), 254);
        x.feed(-1, -1, -1, -1, -1);
        due.is("all bits", x.insure(10, 2550, 0), 2550);
    }

    private static void aFullTape(Due due) {
        due.sentence("promise 2: how many it has");
        InsuredFlame x = new InsuredFlame();
        for (int k = 1; k <= 13; k++) {
            int word = k * 0x01010101;
            due.is("feed " + k, x.feed(word, word, word, word, word), 20 * k);
            due.is("count 7", x.count(7), 20 * k);
        }
        due.sentence("promise 2: NONE if that would be more than 260, and the tape stays");
        due.is("feed of a full one", x.feed(-1, -1, -1, -1, -1), -1);
        due.is("and again", x.feed(-1, -1, -1, -1, -1), -1);
        due.is("count 7", x.count(7), 260);
        due.is("its first bytes", x.insure(10, 2550, 0), 10);
        due.is("empty then", x.count(7), 0);
        due.is("and it can be fed", x.feed(0, 0, 0, 0, 0), 20);
    }

    private static void counted(Due due) {
        due.sentence("promise 27: 0 to 9");
        InsuredFlame x = Due.flame("4#", "*0,0;!2;0@0,0;0=5;5@3,0;5=9;6@0,0;6=70;6+1", "s10(1=1);b2(1=1);x(1=2)");
        x.minutes(3);
        x.seed(300);
        x.feed(0, 0, 0, 0, 0);
        int[] wants = {3, 1 | 32 | 64, 1, 2, 2, 2, 3, 20, 300, 5};
        for (int what = 0; what < wants.length; what++) {
            due.is("count " + what, x.count(what), wants[what]);
        }
        due.sentence("promise 27: NONE for others");
        for (int what : new int[] {-1, 10, 11, 256, -2, Integer.MAX_VALUE, Integer.MIN_VALUE}) {
            due.is("count " + what, x.count(what), -1);
        }
        due.sentence("promise 27: told THINGS (bits), up to THING 23");
        x.check(0);
        Due.orders(x, "23@0,0");
        due.is("count 1", x.count(1), 1 << 23 | 1 | 32 | 64);
    }

    private static void upTo512Calls(Due due) {
        due.sentence("an object is used for at most 512 calls: up to the last one all are as due");
        InsuredFlame x = new InsuredFlame();
        for (int k = 0; k < 511; k++) {
            x.minutes(1);
        }
        due.is("the 512th: count 0", x.count(0), 511);
        InsuredFlame y = new InsuredFlame();
        for (int k = 0; k < 256; k++) {
            due.is("feed " + k, y.feed(k, 0, 0, 0, 0), 20);
            due.is("law " + k, y.law(4), -1000);
        }
    }
}
