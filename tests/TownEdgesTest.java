/** Promises 4 and 8 at their bounds: town, placeIs, and A TOWN among the terms. */
public final class TownEdgesTest {
    private static final String ROW = "############";

    public static void main(String[] args) {
        Due due = new Due();
        lengths(due);
        theTape(due);
        signs(due);
        counts(due);
        whatIsNotTold(due);
        rows(due);
        signsInARow(due);
        cannotStand(due);
        theFirstFromTheLeft(due);
        aFaultLeavesAll(due);
        allIsWholeThen(due);
        placeBounds(due);
        placeAnswers(due);
        due.end();
    }

    private static String rows(int many, String row) {
        return (row + "/").repeat(many - 1) + row;
    }

    private static void lengths(Due due) {
        due.sentence("promise 4: n 1");
        InsuredFlame x = new InsuredFlame();
        due.town(x, "#", 1);
        due.town(x, "~", 0);
        due.sentence("promise 4: n up to 120, where a FAULT is told (no good A TOWN has so many bytes)");
        Due.fill(x, 120, '#');
        due.is("town 120", x.town(120), -6012);
        due.town(x, rows(8, ROW) + "/#", -4104);
        due.town(x, rows(8, ROW) + "x".repeat(17), -1103);
        due.sentence("promise 4: the longest that can be told, 103 bytes");
        due.town(x, rows(8, ROW), 96);
        due.sentence("promise 4: NONE: no such n (the tape stays)");
        Due.fill(x, 140, '#');
        for (int n : new int[] {0, -1, 121, 140, Integer.MAX_VALUE, Integer.MIN_VALUE}) {
            due.is("town " + n, x.town(n), -1);
            due.is("count 7", x.count(7), 140);
        }
        due.is("the town stays", x.woods(1), 96);
    }

    private static void theTape(Due due) {
        due.sentence("promise 4: NONE: it has not so many (the tape stays)");
        InsuredFlame x = new InsuredFlame();
        due.is("town 1 of none", x.town(1), -1);
        Due.fill(x, 20, '.');
        due.is("town 21 of 20", x.town(21), -1);
        due.is("count 7", x.count(7), 20);
        due.sentence("promise 4: as many as it has");
        Due.fill(x, 20, '.');
        due.is("town 20 of 20", x.town(20), -6012);
        due.sentence("promise 4: by the first n bytes of the tape");
        Due.fed(x, "3#x");
        due.is("town 2 of 3#x", x.town(2), 3);
        due.sentence("promise 4: empty then");
        due.is("count 7", x.count(7), 0);
        Due.fill(x, 260, '#');
        due.is("town 1", x.town(1), 1);
        due.is("count 7 behind 1 of 260", x.count(7), 0);
        due.sentence("promise 4: empty then, behind a FAULT, too");
        Due.fill(x, 40, 'x');
        due.is("town 1", x.town(1), -1000);
        due.is("count 7", x.count(7), 0);
    }

    private static void signs(Due due) {
        due.sentence("A TOWN: a dot (BARE), # (WOOD), + (INSURED WOOD), ~ (WATER), and no other byte");
        for (int sign = 0; sign < 256; sign++) {
            InsuredFlame x = Due.flame("#", "", "");
            int kind = ".#+~".indexOf(sign);
            int answer = x.town(Due.fed(x, sign));
            boolean isCount = sign >= '2' && sign <= '9';
            due.is("town of byte " + sign, answer, kind < 0 ? isCount ? -1001 : -1000 : kind == 1 ? 1 : 0);
            due.is("what it is of", x.placeIs(0, 0, 0), kind < 0 ? 1 : kind);
        }
        due.sentence("A TOWN: no blanks");
        InsuredFlame x = new InsuredFlame();
        due.town(x, " #", -1000);
        due.town(x, "# ", -1001);
        due.town(x, "2 #", -1001);
        due.town(x, "# /#", -1001);
        due.town(x, "#/ #", -1002);
    }

    private static void counts(Due due) {
        due.sentence("A TOWN: a digit 2 to 9 ahead of it perhaps (so many)");
        InsuredFlame x = new InsuredFlame();
        for (int many = 2; many <= 9; many++) {
            due.town(x, many + "#", many);
            due.is("the last of them", x.placeIs(many - 1, 0, 0), 1);
            due.is("behind them", x.placeIs(many, 0, 0), 0);
        }
        due.sentence("A TOWN: a digit 0 or 1 can't stand ahead of it");
        due.town(x, "0#", -1000);
        due.town(x, "1#", -1000);
        due.town(x, "#0#", -1001);
        due.town(x, "#1#", -1001);
        due.sentence("A TOWN: one digit at most");
        due.town(x, "22#", -1001);
        due.town(x, "10#", -1000);
        due.town(x, "20#", -1001);
        due.sentence("A TOWN: a digit is ahead of any of the four");
        due.town(x, "2.2+2~2#", 2);
        int[] kinds = {0, 0, 2, 2, 3, 3, 1, 1};
        for (int p = 0; p < kinds.length; p++) {
            due.is("placeIs " + p, x.placeIs(p, 0, 0), kinds[p]);
        }
    }

    private static void whatIsNotTold(Due due) {
        due.sentence("A TOWN: what isn't told is BARE");
        InsuredFlame x = new InsuredFlame();
        due.town(x, rows(8, "9#3+"), 72);
        due.town(x, "#/~", 1);
        for (int p = 0; p < 96; p++) {
            due.is("placeIs " + p, x.placeIs(p % 12, p / 12, 0), p == 0 ? 1 : p == 12 ? 3 : 0);
        }
        due.sentence("A TOWN: the first ROW is Y 0, the eighth Y 7");
        due.town(x, ".#/..#/...#/4.#/5.#/6.#/7.#/8.#", 8);
        for (int y = 0; y < 8; y++) {
            due.is("placeIs of ROW " + y, x.placeIs(y + 1, y, 0), 1);
        }
    }

    private static void rows(Due due) {
        due.sentence("A TOWN: 8 ROWS at most");
        InsuredFlame x = new InsuredFlame();
        due.town(x, rows(8, "#"), 8);
        due.sentence("A TOWN, FAULT 4: a ninth ROW, at its first byte");
        for (String ninth : new String[] {"#", ".", "+", "~", "2#", "9#", "##", "#x", "#/", "2", "9x", "2/", "9#9#"}) {
            due.town(x, rows(8, "#") + "/" + ninth, -4016);
        }
        due.town(x, rows(8, "2.") + "/#", -4024);
        due.sentence("A TOWN, FAULT 4: (if that can stand there), else FAULT 1");
        for (String ninth : new String[] {"", "/", "x", "0", "1", "1#", " #", "/#", "a"}) {
            due.town(x, rows(8, "#") + "/" + ninth, -1016);
        }
        due.is("the town stays", x.woods(1), 8);
        for (int sign = 0; sign < 256; sign++) {
            int want = "23456789.#+~".indexOf(sign) >= 0 ? -4016 : -1016;
            due.is("a ninth ROW that begins with byte " + sign, Due.town(new InsuredFlame(), rows(8, "#") + "/" + (char) sign), want);
        }
    }

    private static void signsInARow(Due due) {
        due.sentence("A TOWN: 12 SIGNS at most");
        InsuredFlame x = new InsuredFlame();
        for (String row : new String[] {ROW, "9#3#", "3#9#", "6#6#", "2#2#2#2#2#2#", "9###" + "#", "#9##" + "#"}) {
            due.town(x, row, 12);
            due.is("the last", x.placeIs(11, 0, 0), 1);
        }
        due.sentence("A TOWN, FAULT 6: more than 12 SIGNS in a ROW, at the SIGN's first byte");
        due.town(x, ROW + "#", -6012);
        due.town(x, "9#3#.", -6004);
        due.town(x, "9#3#+", -6004);
        due.town(x, "9#3#~", -6004);
        due.town(x, "9#3##/#", -6004);
        due.sentence("A TOWN, FAULT 6: its digit, if it has one");
        due.town(x, "9#4#", -6002);
        due.town(x, "9#9#", -6002);
        due.town(x, "9#3#2#", -6004);
        due.town(x, ROW.substring(1) + "2#", -6011);
        due.town(x, ROW + "9.", -6012);
        due.sentence("A TOWN, FAULT 6: each ROW for itself");
        due.town(x, rows(7, "9#3#") + "/9#4#", -6037);
        due.town(x, rows(7, "9#3#") + "/9#3##", -6039);
        due.town(x, rows(8, "9#3#"), 96);
    }

    private static void cannotStand(Due due) {
        due.sentence("A TOWN, FAULT 1: a ROW has one SIGN at least");
        InsuredFlame x = new InsuredFlame();
        due.town(x, "/", -1000);
        due.town(x, "/#", -1000);
        due.town(x, "#//#", -1002);
        due.town(x, rows(7, "#") + "//", -1014);
        due.sentence("A TOWN, FAULT 1: the end, too");
        due.town(x, "#/", -1002);
        due.town(x, "2", -1001);
        due.town(x, "#/9", -1003);
        due.town(x, rows(7, "#") + "/", -1014);
        due.sentence("A TOWN, FAULT 1: behind a digit only a SIGN can stand");
        due.town(x, "2/", -1001);
        due.town(x, "3x", -1001);
        due.town(x, "9" + (char) 0, -1001);
        due.sentence("A TOWN, FAULT 1: behind a full ROW");
        due.town(x, "9#3#x", -1004);
        due.town(x, "9#3#0", -1004);
        due.town(x, "9#3#1#", -1004);
        due.town(x, "9#3# ", -1004);
    }

    private static void theFirstFromTheLeft(Due due) {
        due.sentence("A TOWN: FAULTS, the first from the left");
        InsuredFlame x = new InsuredFlame();
        due.town(x, "#x/9#9#", -1001);
        due.town(x, "9#9#/x", -6002);
        due.town(x, "9#9#x", -6002);
        due.town(x, rows(7, "#") + "/x/#", -1014);
        due.town(x, rows(8, "#") + "/#/x", -4016);
    }

    private static void aFaultLeavesAll(Due due) {
        due.sentence("promise 4: a FAULT (all stays)");
        for (String wrong : new String[] {"~x", "~/", rows(9, "~"), "9~9~", "~2"}) {
            InsuredFlame x = Due.flame("##+", "*0,0;0@1,0;0=7;!3", "s10(1=1)");
            x.minutes(1);
            due.is("town " + wrong, Due.town(x, wrong) < -999, true);
            int[] wants = {1, 1, 0, 2, 0, 3, 1, 0, x.count(8), 0};
            for (int what = 0; what < wants.length; what++) {
                due.is("count " + what, x.count(what), wants[what]);
            }
            int[] kinds = {1, 1, 2, 0};
            for (int p = 0; p < 4; p++) {
                due.is("placeIs " + p, x.placeIs(p, 0, 0), kinds[p]);
            }
            due.is("still burns", x.placeIs(0, 0, 2), 2);
        }
    }

    private static void allIsWholeThen(Due due) {
        due.sentence("A TOWN: all is WHOLE then");
        InsuredFlame x = Due.flame("3#", "*0,0", "s10(1=1);b9(1=1)");
        x.minutes(4);
        due.is("one is burnt", x.count(4), 1);
        due.is("two burn", x.count(3), 2);
        due.town(x, "3#", 3);
        due.is("none is burnt", x.count(4), 0);
        due.is("none burns", x.count(3), 0);
        due.is("no MINUTES yet", x.placeIs(1, 0, 2), 0);
        due.is("the law stays", x.count(6), 2);
    }

    private static void placeBounds(Due due) {
        due.sentence("promise 8: PLACES, X 0 to 11, Y 0 to 7");
        InsuredFlame x = Due.flame(Due.ALL_WOOD, "", "");
        int[][] good = {{0, 0}, {11, 0}, {0, 7}, {11, 7}};
        for (int[] place : good) {
            due.is("placeIs " + place[0] + ", " + place[1], x.placeIs(place[0], place[1], 0), 1);
        }
        due.sentence("promise 8: NONE: no such ones (the PLACE)");
        int[][] wrong = {{-1, 0}, {12, 0}, {0, -1}, {0, 8}, {-1, 1}, {12, 6}, {Integer.MIN_VALUE, 0}, {Integer.MAX_VALUE, 0}, {0, Integer.MIN_VALUE}, {0, Integer.MAX_VALUE}, {1 << 30, 1 << 30}};
        for (int[] place : wrong) {
            for (int what = 0; what < 6; what++) {
                due.is("placeIs " + place[0] + ", " + place[1] + ", " + what, x.placeIs(place[0], place[1], what), -1);
            }
        }
        due.sentence("promise 8: NONE: no such ones (what)");
        for (int what : new int[] {-1, 6, 7, Integer.MIN_VALUE, Integer.MAX_VALUE}) {
            due.is("placeIs 0, 0, " + what, x.placeIs(0, 0, what), -1);
        }
    }

    private static void placeAnswers(Due due) {
        due.sentence("promise 8: BARE 0, WOOD 1, INSURED WOOD 2, WATER 3");
        InsuredFlame x = Due.flame(".#+~##", "*4,0", "");
        for (int p = 0; p < 4; p++) {
            due.is("placeIs " + p + ", 0", x.placeIs(p, 0, 0), p);
        }
        due.sentence("promise 8: WHOLE 0, BURNING 1, BURNT 2; MINUTES it burns yet");
        for (int left = 3; left > 0; left--) {
            due.is("burns", x.placeIs(4, 0, 1), 1);
            due.is("so long yet", x.placeIs(4, 0, 2), left);
            x.minutes(1);
        }
        due.is("burnt", x.placeIs(4, 0, 1), 2);
        due.is("no more", x.placeIs(4, 0, 2), 0);
        due.is("whole", x.placeIs(5, 0, 1), 0);
        due.is("none", x.placeIs(5, 0, 2), 0);
        due.sentence("promise 8: THINGS there that are not GONE (bits), 0 to 23; v, i");
        InsuredFlame y = Due.flame("##", "0@0,0;0=1;22@0,0;22=9999;22+9999;23@0,0;23+5;1@1,0;1=8", "");
        due.is("bits", y.placeIs(0, 0, 3), 1 | 1 << 22 | 1 << 23);
        due.is("v", y.placeIs(0, 0, 4), 1);
        due.is("i", y.placeIs(0, 0, 5), 10004);
        due.is("bits of none", y.placeIs(2, 0, 3), 0);
        Due.orders(y, "*0,0");
        y.minutes(1);
        due.is("bits less the GONE one", y.placeIs(0, 0, 3), 1 << 22 | 1 << 23);
        due.is("v less the GONE one", y.placeIs(0, 0, 4), 0);
        due.is("i then", y.placeIs(0, 0, 5), 10004);
    }
}
