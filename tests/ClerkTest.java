/** Promises 17 to 21: insure, roundFigure, ruin, carried, premium. */
public final class ClerkTest {
    public static void main(String[] args) {
        Due due = new Due();
        insure(due);
        roundFigure(due);
        ruin(due);
        carried(due);
        premium(due);
        due.end();
    }

    private static void insured(Due due, int much, int worth, int cost, int bits, int... bytes) {
        InsuredFlame x = new InsuredFlame();
        int[] wants = {worth, cost, bits};
        for (int what = 0; what < 3; what++) {
            Due.fed(x, bytes);
            due.is("insure for " + much + ", " + what, x.insure(bytes.length / 2, much, what), wants[what]);
            due.is("empty then", x.count(7), 0);
        }
    }

    private static void insure(Due due) {
        insured(due, 10, 25, 9, 5, 10, 5, 20, 10, 15, 4);
        insured(due, 0, 0, 0, 0, 9, 1);
        insured(due, 0, 9, 0, 1, 9, 0);
        insured(due, 0, 0, 0, 0, 0, 0, 0, 0);
        insured(due, 5, 7, 3, 4, 7, 5, 7, 4, 7, 3);
        insured(due, 6, 8, 6, 3, 4, 3, 4, 3, 4, 3, 4, 3);
        insured(due, 6, 9, 6, 3, 4, 3, 5, 3, 9, 6);
        insured(due, 255, 255, 255, 1, 255, 255);
        insured(due, 254, 0, 0, 0, 255, 255);
        insured(due, 2550, 2550, 2550, 1023, 255, 255, 255, 255, 255, 255, 255, 255, 255, 255, 255, 255, 255, 255, 255, 255, 255, 255, 255, 255);
        InsuredFlame x = new InsuredFlame();
        Due.fed(x, 1, 1);
        due.is("n 0", x.insure(0, 1, 0), -1);
        due.is("what -1", x.insure(1, 1, -1), -1);
        due.is("n 2 to the 30", x.insure(1 << 30, 1, 0), -1);
        due.is("the tape stays", x.count(7), 20);
        due.is("n 10 of 20 bytes", x.insure(10, 1, 2), 1);
    }

    private static void roundFigure(Due due) {
        InsuredFlame x = new InsuredFlame();
        int[][] rows = {{1, 1}, {2, 2}, {3, 2}, {4, 5}, {5, 5}, {6, 5}, {7, 5}, {8, 10}, {10, 10}, {14, 10}, {15, 10}, {16, 20}, {34, 20}, {35, 20}, {36, 50}, {75, 50}, {76, 100}, {150, 100}, {151, 200}, {350, 200}, {351, 500},
            {750, 500}, {751, 1000}, {123456, 100000}, {150001, 200000}, {750000, 500000}, {750001, 1000000}, {999999, 1000000}, {0, -1}, {-5, -1}, {1000000, -1}};
        for (int[] row : rows) {
            due.is("roundFigure " + row[0], x.roundFigure(row[0]), row[1]);
        }
    }

    private static void ruined(Due due, int n, int first, int bits, int... bytes) {
        InsuredFlame x = new InsuredFlame();
        Due.fed(x, bytes);
        due.is("ruin of " + n + " by " + first, x.ruin(n, first, 1), bits);
        due.is("empty then", x.count(7), 0);
        Due.fed(x, bytes);
        due.is("how many", x.ruin(n, first, 0), Integer.bitCount(bits));
    }

    private static void ruin(Due due) {
        ruined(due, 3, 0, 5, 10, 5, 0, 3, 2, 0, 0, 4, 1);
        ruined(due, 2, 0, 1, 0, 9, 9, 0);
        ruined(due, 2, 1, 2, 0, 9, 9, 0);
        int[] chain = {0, 5, 0, 0, 0, 0, 5, 0, 0, 0, 0, 5, 0, 0, 0, 0};
        ruined(due, 4, 3, 11, chain);
        ruined(due, 4, 0, 7, chain);
        ruined(due, 4, 1, 6, chain);
        ruined(due, 4, 2, 5, chain);
        ruined(due, 3, 0, 1, 0, 0, 0, 0, 3, 3, 0, 0, 0);
        ruined(due, 3, 0, 3, 0, 0, 0, 0, 2, 3, 0, 0, 0);
        ruined(due, 3, 0, 1, 0, 0, 0, 0, 2, 3, 0, 1, 0);
        allAtOnce(due);
        InsuredFlame x = new InsuredFlame();
        Due.fed(x, new int[40]);
        due.is("first -1", x.ruin(2, -1, 0), -1);
        due.is("first n", x.ruin(6, 6, 0), -1);
        due.is("what -1", x.ruin(2, 0, -1), -1);
        due.is("the tape stays", x.count(7), 40);
        due.is("six", x.ruin(6, 5, 1), 32);
    }

    /** Both 1 and 2 can't pay in the same round, though the one could if the other were lost ahead of it. */
    private static void allAtOnce(Due due) {
        ruined(due, 4, 0, 7, 0, 0, 0, 0, 0, 1, 2, 0, 0, 0, 0, 5, 0, 0, 0, 0);
        ruined(due, 4, 0, 7, 0, 0, 0, 0, 0, 0, 0, 5, 0, 2, 1, 0, 0, 0, 0, 0);
    }

    private static void carries(Due due, int worth, int... bytes) {
        InsuredFlame x = new InsuredFlame();
        Due.fed(x, bytes);
        due.is("carried of " + bytes.length / 3, x.carried(bytes.length / 3), worth);
        due.is("empty then", x.count(7), 0);
    }

    private static void carried(Due due) {
        carries(due, 10, 5, 10, 5);
        carries(due, 0, 5, 10, 4);
        carries(due, 0, 1, 10, 0);
        carries(due, 17, 5, 10, 5, 3, 7, 8, 4, 9, 6);
        carries(due, 30, 4, 10, 12, 4, 10, 8, 4, 10, 4);
        carries(due, 20, 4, 10, 11, 4, 10, 8, 4, 10, 4);
        carries(due, 200, 60, 100, 60, 60, 100, 120);
        carries(due, -2, 0, 1, 1);
        carries(due, -2, 1, 1, 1, 61, 1, 1);
        carries(due, -2, 1, 1, 1, 0, 1, 1);
        carries(due, 255, 60, 255, 255);
        carries(due, 1020, 60, 255, 255, 60, 255, 255, 60, 255, 255, 60, 255, 255, 60, 255, 255, 60, 255, 255, 60, 255, 255, 60, 255, 255, 60, 255, 255, 60, 255, 255);
        carries(due, 2550, 1, 255, 10, 1, 255, 9, 1, 255, 8, 1, 255, 7, 1, 255, 6, 1, 255, 5, 1, 255, 4, 1, 255, 3, 1, 255, 2, 1, 255, 1);
    }

    private static void premiums(Due due, int mean, int odds, int... bytes) {
        InsuredFlame x = new InsuredFlame();
        Due.fed(x, bytes);
        due.is("mean of " + bytes.length / 2, x.premium(bytes.length / 2, 0), mean);
        due.is("empty then", x.count(7), 0);
        Due.fed(x, bytes);
        due.is("odds of " + bytes.length / 2, x.premium(bytes.length / 2, 1), odds);
    }

    private static void premium(Due due) {
        premiums(due, 250, 50, 10, 5, 20, 10);
        premiums(due, 0, 0, 255, 0);
        premiums(due, 2550, 10, 255, 10);
        premiums(due, -2, -2, 255, 11);
        premiums(due, -2, -2, 1, 1, 1, 255);
        premiums(due, 20400, 100000000, 255, 10, 255, 10, 255, 10, 255, 10, 255, 10, 255, 10, 255, 10, 255, 10);
        premiums(due, 70, 210, 5, 5, 3, 6, 1, 7, 20, 1);
        InsuredFlame x = new InsuredFlame();
        Due.fed(x, 1, 1);
        due.is("n 0", x.premium(0, 0), -1);
        due.is("what -1", x.premium(1, -1), -1);
        due.is("the tape stays", x.count(7), 20);
    }
}
