/** Promises 1, 2 and 27: a new object, feed, count. */
public final class TapeTest {
    public static void main(String[] args) {
        Due due = new Due();
        aNewObject(due);
        feeding(due);
        takingBytes(due);
        due.is("NONE", InsuredFlame.NONE, -1);
        due.end();
    }

    private static void aNewObject(Due due) {
        InsuredFlame x = new InsuredFlame();
        int[] counts = {0, 0, 0, 0, 0, 0, 0, 0, 1, 0};
        for (int what = 0; what < counts.length; what++) {
            due.is("new count " + what, x.count(what), counts[what]);
        }
        due.is("count -1", x.count(-1), -1);
        due.is("count 10", x.count(10), -1);
        due.is("count least", x.count(Integer.MIN_VALUE), -1);
        for (int y = 0; y < 8; y++) {
            InsuredFlame ofRow = new InsuredFlame();
            for (int p = 0; p < 12; p++) {
                for (int what = 0; what < 6; what++) {
                    due.is("new placeIs", ofRow.placeIs(p, y, what), 0);
                }
            }
        }
        for (int i = 0; i < 24; i++) {
            due.is("new thingIs " + i, x.thingIs(i, 0), -1);
        }
        due.is("undo of none kept", x.undo(), false);
    }

    private static void feeding(Due due) {
        InsuredFlame x = new InsuredFlame();
        for (int k = 1; k <= 13; k++) {
            due.is("feed", x.feed(0, 0, 0, 0, 0), 20 * k);
        }
        due.is("feed beyond 260", x.feed(0, 0, 0, 0, 0), -1);
        due.is("count 7", x.count(7), 260);
        due.is("check 0", x.check(0), -1);
        due.is("count 7 then", x.count(7), 0);
        due.is("feed high bytes", x.feed(0xfffefdfc, -1, -1, -1, -1), 20);
        InsuredFlame y = new InsuredFlame();
        Due.orders(y, "0@0,0;1@0,0;2@0,0;3@0,0;4@0,0;0=255;1=254;2=253;3=252;4=255");
        y.feed(0xfffefdfc, 0xff000000, 0, 0, 0);
        due.is("the highest byte first", y.check(5), -1);
    }

    /** What refuses leaves the tape; what takes bytes (a FAULT, too) leaves it empty. */
    private static void takingBytes(Due due) {
        InsuredFlame x = new InsuredFlame();
        x.feed(0, 0, 0, 0, 0);
        due.is("law 0", x.law(0), -1);
        due.is("law 241", x.law(241), -1);
        due.is("law 21 of 20", x.law(21), -1);
        due.is("town 0", x.town(0), -1);
        due.is("town 121", x.town(121), -1);
        due.is("town 21 of 20", x.town(21), -1);
        due.is("orders 0", x.orders(0), -1);
        due.is("orders 121", x.orders(121), -1);
        due.is("orders 21 of 20", x.orders(21), -1);
        due.is("check 25", x.check(25), -2);
        due.is("check -1", x.check(-1), -2);
        due.is("check 21 of 20", x.check(21), -2);
        due.is("insure 11", x.insure(11, 0, 0), -1);
        due.is("insure for -1", x.insure(1, -1, 0), -1);
        due.is("insure for 2551", x.insure(1, 2551, 0), -1);
        due.is("insure what 3", x.insure(1, 0, 3), -1);
        due.is("ruin 5 of 20", x.ruin(5, 0, 0), -1);
        due.is("ruin first 2 of 2", x.ruin(2, 2, 0), -1);
        due.is("ruin 1", x.ruin(1, 0, 0), -1);
        due.is("ruin 7", x.ruin(7, 0, 0), -1);
        due.is("ruin what 2", x.ruin(2, 0, 2), -1);
        due.is("carried 0", x.carried(0), -1);
        due.is("carried 11", x.carried(11), -1);
        due.is("carried 7 of 20", x.carried(7), -1);
        due.is("premium 9", x.premium(9, 0), -1);
        due.is("premium what 2", x.premium(1, 2), -1);
        due.is("count 7 all along", x.count(7), 20);
        x.feed(0, 0, 0, 0, 0);
        x.feed(0, 0, 0, 0, 0);
        x.feed(0, 0, 0, 0, 0);
        x.feed(0, 0, 0, 0, 0);
        x.feed(0, 0, 0, 0, 0);
        x.feed(0, 0, 0, 0, 0);
        due.is("town 121 of 140", x.town(121), -1);
        due.is("orders 121 of 140", x.orders(121), -1);
        due.is("count 7 of 140", x.count(7), 140);
        due.is("law 140 of 140", x.law(140), -1000);
        due.is("count 7 behind a FAULT", x.count(7), 0);
        due.is("carried of none", x.carried(1), -1);
        due.is("insure of none", x.insure(1, 1, 0), -1);
        due.is("premium of none", x.premium(1, 0), -1);
        due.is("check of none", x.check(0), -1);
    }
}
