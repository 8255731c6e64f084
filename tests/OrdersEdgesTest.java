/** Promises 5 and 9 at their bounds: orders, thingIs, and ORDERS among the terms. */
public final class OrdersEdgesTest {
    private static final String SIXTEEN = "!1;".repeat(15) + "!1";

    public static void main(String[] args) {
        Due due = new Due();
        lengths(due);
        theTape(due);
        lines(due);
        eachByte(due);
        blanks(due);
        ends(due);
        fifthDigit(due);
        tooLargeThings(due);
        tooLargePlaces(due);
        notTold(due);
        noWholeWood(due);
        toldThings(due);
        amounts(due);
        litPlaces(due);
        wateredPlaces(due);
        wind(due);
        nothingByAFault(due);
        thingBounds(due);
        paid(due);
        due.end();
    }

    private static void lengths(Due due) {
        due.sentence("promise 5: n 1 (no ORDERS are so short)");
        InsuredFlame x = new InsuredFlame();
        due.orders(x, "!", -1001);
        due.sentence("promise 5: the shortest ORDERS");
        due.orders(x, "!2", 1);
        due.sentence("promise 5: n up to 120");
        String longest = "0000@0000,0000;".repeat(7) + "0000@0001,0000";
        due.is("its length", longest.length(), 119);
        due.orders(x, longest, 8);
        String full = "!0;!1;" + "0000@0000,0000;".repeat(7) + "23@11,007";
        due.is("its length", full.length(), 120);
        due.orders(x, full, 10);
        due.is("the last is done", x.thingIs(23, 0), 95);
        due.sentence("promise 5: a FAULT at the end of 120 bytes");
        due.orders(x, full.substring(0, 117) + "7;!", -1120);
        due.orders(x, full.substring(0, 117) + "7;x", -1119);
        due.sentence("promise 5: NONE: no such n (the tape stays)");
        Due.fill(x, 260, '!');
        for (int n : new int[] {0, -1, -120, 121, 240, 260, 261, Integer.MAX_VALUE, Integer.MIN_VALUE}) {
            due.is("orders " + n, x.orders(n), -1);
            due.is("count 7", x.count(7), 260);
        }
        due.is("the bytes stay", x.orders(120), -1001);
    }

    private static void theTape(Due due) {
        due.sentence("promise 5: NONE: it has not so many (the tape stays)");
        InsuredFlame x = new InsuredFlame();
        due.is("orders 1 of none", x.orders(1), -1);
        Due.fed(x, "!3");
        due.is("orders 21 of 20", x.orders(21), -1);
        due.is("orders 120 of 20", x.orders(120), -1);
        due.is("count 7", x.count(7), 20);
        due.is("nothing is done", x.count(5), 0);
        due.is("the bytes stay", x.orders(2), 1);
        due.is("and are done", x.count(5), 3);
        due.sentence("promise 5: as many as it has");
        due.orders(x, "!1;!1;!1;!1;!1;!1;!2", 7);
        due.is("count 5", x.count(5), 2);
        due.sentence("promise 5: by the first n bytes of the tape");
        Due.fed(x, "!1;!0");
        due.is("orders 2", x.orders(2), 1);
        due.is("count 5", x.count(5), 1);
        due.sentence("promise 5: empty then");
        due.is("count 7", x.count(7), 0);
        Due.fed(x, "!3");
        Due.fill(x, 260, '!');
        due.is("orders 2 of 260", x.orders(2), 1);
        due.is("count 7", x.count(7), 0);
        due.sentence("promise 5: empty then, behind a FAULT, too");
        Due.fill(x, 260, '!');
        due.is("orders 2", x.orders(2), -1001);
        due.is("count 7", x.count(7), 0);
    }

    private static void lines(Due due) {
        due.sentence("promise 5: how many LINES (16 at most)");
        for (int many = 1; many <= 16; many++) {
            InsuredFlame x = new InsuredFlame();
            due.orders(x, "!1;".repeat(many - 1) + "!2", many);
            due.is("the last is done", x.count(5), 2);
        }
        due.sentence("ORDERS, FAULT 4: a 17th LINE, at its first byte, whatever stands behind it");
        InsuredFlame x = new InsuredFlame();
        for (String line : new String[] {"!", "*", "~", "0", "9", "!1", "24", "00000", "*12,0", "~x", "0@0,0", "*0,0", "!1;"}) {
            due.orders(x, SIXTEEN + ";" + line, -4048);
        }
        due.orders(x, "!1;!1;" + "0@0,0;".repeat(13) + "0@0,0;!1", -4090);
        due.sentence("ORDERS, FAULT 4: (if that can stand there), else FAULT 1");
        for (String line : new String[] {"", ";", "x", "@0,0", "=1", "+1", ",", " !1"}) {
            due.orders(x, SIXTEEN + ";" + line, -1048);
        }
        for (int sign = 0; sign < 256; sign++) {
            int want = "0123456789*~!".indexOf(sign) >= 0 ? -4048 : -1048;
            due.is("a 17th LINE that begins with byte " + sign, Due.orders(new InsuredFlame(), SIXTEEN + ";" + (char) sign), want);
        }
        due.sentence("ORDERS: a ; between two, none ahead, behind, or two of them");
        due.orders(x, ";!1", -1000);
        due.orders(x, "!1;", -1003);
        due.orders(x, "!1;;!1", -1003);
        due.orders(x, "!1!1", -1002);
        due.orders(x, "!1/!1", -1002);
        due.orders(x, SIXTEEN, 16);
    }

    /**
     * Each byte behind such ORDERS: with one of canStand the end is the FAULT, one of whole makes one whole LINE,
     * what other bytes answer is told elsewhere, all the rest can't stand there. THING 0 is told, (0, 0) is WOOD.
     */
    private static void bytesBehind(Due due, String ahead, String canStand, String whole, String elsewhere) {
        for (int sign = 0; sign < 256; sign++) {
            if (elsewhere.indexOf(sign) < 0) {
                InsuredFlame x = Due.flame("#", "0@0,0", "");
                int end = ahead.length() + (canStand.indexOf(sign) >= 0 ? 1 : 0);
                int want = whole.indexOf(sign) >= 0 ? 1 : -1000 - end;
                due.is("orders " + ahead + " and byte " + sign, Due.orders(x, ahead + (char) sign), want);
            }
        }
    }

    private static void eachByte(Due due) {
        String digits = "0123456789";
        due.sentence("ORDERS, FAULT 1: a LINE begins with a number, * ~ or !");
        bytesBehind(due, "", digits + "*~!", "", "");
        bytesBehind(due, "0=1;", digits + "*~!", "", "");
        due.sentence("ORDERS, FAULT 1: behind the THING @ = or +");
        bytesBehind(due, "0", digits + "@=+", "", "");
        bytesBehind(due, "0000", "@=+", "", digits);
        due.sentence("ORDERS, FAULT 1: behind = and + a number");
        bytesBehind(due, "0=", "", digits, "");
        bytesBehind(due, "0+", "", digits, "");
        due.sentence("ORDERS, FAULT 1: behind a number of VALUE, SUM a ;");
        bytesBehind(due, "0=5", ";", digits, "");
        bytesBehind(due, "0+5", ";", digits, "");
        due.sentence("ORDERS, FAULT 1: behind @ * ~ X, a comma, Y");
        for (String ahead : new String[] {"0@", "*", "~"}) {
            bytesBehind(due, ahead, digits, "", "");
            bytesBehind(due, ahead + "0", digits + ",", "", "");
            bytesBehind(due, ahead + "0000", ",", "", digits);
        }
        bytesBehind(due, "0@1,", "", "01234567", "89");
        bytesBehind(due, "~1,", "", "01234567", "89");
        bytesBehind(due, "*0,", "", "0", "123456789");
        due.sentence("ORDERS, FAULT 1: behind a PLACE a ;");
        bytesBehind(due, "0@0,0", ";", "01234567", "89");
        bytesBehind(due, "~0,0", ";", "01234567", "89");
        bytesBehind(due, "*0,0", ";", "0", "123456789");
        due.sentence("ORDERS, FAULT 1: behind ! a digit 0 to 3, behind it a ;");
        bytesBehind(due, "!", "", "0123", "");
        bytesBehind(due, "!0", ";", "", "");
    }

    private static void blanks(Due due) {
        due.sentence("ORDERS: no blanks");
        String orders = "0@1,0;0=12;0+3;*0,0;~1,1;!2";
        due.orders(Due.flame("#", "", ""), orders, 6);
        for (int at = 0; at <= orders.length(); at++) {
            InsuredFlame x = Due.flame("#", "", "");
            due.orders(x, orders.substring(0, at) + " " + orders.substring(at), -1000 - at);
        }
    }

    private static void ends(Due due) {
        due.sentence("ORDERS, FAULT 1: what can't stand there (the end, too)");
        String orders = "0@1,0;0=1;0+3;*0,0;~1,1;!2";
        int lines = 0;
        for (int n = 1; n <= orders.length(); n++) {
            InsuredFlame x = Due.flame("#", "", "");
            Due.fed(x, orders);
            boolean isWhole = n == orders.length() || orders.charAt(n) == ';';
            lines += isWhole ? 1 : 0;
            due.is("orders " + orders.substring(0, n), x.orders(n), isWhole ? lines : -1000 - n);
        }
    }

    private static void fifthDigit(Due due) {
        due.sentence("ORDERS: numbers of one to four digits");
        InsuredFlame x = Due.flame("##", "", "");
        due.orders(x, "0@0,0;00@00,00;000@000,000;0000@0000,0000", 4);
        due.orders(x, "0=0;0=00;0=000;0=0000;0+0;0+00;0+000;0+0000", 8);
        due.orders(x, "*0000,0000;~0001,0000", 2);
        due.sentence("ORDERS, FAULT 2: a fifth digit, at it");
        due.orders(x, "00000@0,0", -2004);
        due.orders(x, "12345@0,0", -2004);
        due.orders(x, "0@00000,0", -2006);
        due.orders(x, "0@0,00000", -2008);
        due.orders(x, "0=00000", -2006);
        due.orders(x, "0=99999", -2006);
        due.orders(x, "0+00000", -2006);
        due.orders(x, "0+10000", -2006);
        due.orders(x, "*00000,0", -2005);
        due.orders(x, "*0,00000", -2007);
        due.orders(x, "~00000,0", -2005);
        due.orders(x, "~0,00000", -2007);
        due.orders(x, "99999", -2004);
        due.orders(x, "0=123456", -2006);
        due.sentence("ORDERS: a digit behind the one of WIND is FAULT 1");
        due.orders(x, "!00", -1002);
    }

    private static void tooLargeThings(Due due) {
        due.sentence("ORDERS: THING 0 to 23");
        for (int i = 0; i < 24; i++) {
            InsuredFlame x = new InsuredFlame();
            due.orders(x, i + "@1,0", 1);
            due.is("count 1", x.count(1), 1 << i);
        }
        due.sentence("ORDERS, FAULT 3: a THING above 23, at the number's first digit (asked when it ends)");
        InsuredFlame x = new InsuredFlame();
        for (String line : new String[] {"24@0,0", "24", "24x", "24;", "24=1", "24+1", "25@0,0", "32@0,0", "99@0,0", "100@0,0", "0024@0,0", "9999", "9999@99,99"}) {
            due.orders(x, line, -3000);
            due.orders(x, "!1;" + line, -3003);
        }
        due.is("none is told", x.count(1), 0);
    }

    private static void tooLargePlaces(Due due) {
        due.sentence("ORDERS: X 0 to 11, Y 0 to 7");
        InsuredFlame x = new InsuredFlame();
        int[][] places = {{0, 0}, {11, 0}, {0, 7}, {11, 7}};
        for (int[] place : places) {
            due.orders(x, "0@" + place[0] + "," + place[1], 1);
            due.is("thingIs", x.thingIs(0, 0), 12 * place[1] + place[0]);
        }
        due.sentence("ORDERS, FAULT 3: X above 11, at the number's first digit (asked when it ends)");
        for (String rest : new String[] {"12,0", "12", "12x", "12;", "99,9", "0012,0", "9999", "100,0"}) {
            due.orders(x, "0@" + rest, -3002);
            due.orders(x, "*" + rest, -3001);
            due.orders(x, "~" + rest, -3001);
        }
        due.sentence("ORDERS, FAULT 3: Y above 7, at the number's first digit (asked when it ends)");
        for (String rest : new String[] {"8", "8x", "8;", "9", "10", "0008", "9999", "8,8", "8;!4"}) {
            due.orders(x, "0@0," + rest, -3004);
            due.orders(x, "*11," + rest, -3004);
            due.orders(x, "~0," + rest, -3003);
        }
    }

    private static void notTold(Due due) {
        due.sentence("ORDERS, FAULT 7: a THING that is not told, at its first digit (asked when its sign has been read)");
        InsuredFlame x = Due.flame("", "2@0,0", "");
        for (String line : new String[] {"1=5", "1=", "1=x", "1+5", "1+", "1+x", "1=99999", "0001=5", "23+1", "23=1"}) {
            due.orders(x, line, -7000);
            due.orders(x, "!1;" + line, -7003);
        }
        due.sentence("ORDERS, FAULT 7: not ahead of its sign");
        due.orders(x, "1", -1001);
        due.orders(x, "1x", -1001);
        due.orders(x, "1;", -1001);
        due.orders(x, "23", -1002);
        due.sentence("ORDERS, FAULT 7: but with @");
        due.orders(x, "1@0,0", 1);
        due.sentence("ORDERS, FAULT 7: told by LINES ahead, too");
        due.orders(x, "3@0,0;3=5;3+6", 3);
        due.is("VALUE", x.thingIs(3, 1), 5);
        due.is("SUM", x.thingIs(3, 2), 6);
        due.orders(x, "4=5;4@0,0", -7000);
        due.orders(x, "4@0,0;5=5", -7006);
        due.orders(x, "4=5", -7000);
        due.sentence("ORDERS, FAULT 7: a THING that is GONE is told");
        InsuredFlame y = Due.flame("#", "0@0,0;*0,0", "");
        y.minutes(1);
        due.is("GONE", y.thingIs(0, 3), 1);
        due.orders(y, "0=5;0+6", 2);
    }

    private static void noWholeWood(Due due) {
        due.sentence("ORDERS, FAULT 8: a PLACE that is no WOOD (with *), at X (asked when the LINE ends)");
        InsuredFlame x = Due.flame("##+~.#", "", "");
        for (int p = 2; p < 5; p++) {
            due.orders(x, "*" + p + ",0", -8001);
            due.orders(x, "*" + p + ",0;", -8001);
            due.orders(x, "!1;*" + p + ",0;!1", -8004);
            due.orders(x, "*" + p + ",0x", -8001);
        }
        due.sentence("ORDERS, FAULT 8: not WHOLE: BURNING");
        due.orders(x, "*0,0", 1);
        due.orders(x, "*0,0", -8001);
        due.orders(x, "*1,0;*1,0", -8006);
        due.sentence("ORDERS, FAULT 8: not WHOLE: BURNT");
        x.minutes(3);
        due.is("BURNT", x.placeIs(0, 0, 1), 2);
        due.orders(x, "*0,0", -8001);
        due.sentence("ORDERS, FAULT 8: what LINES ahead did counts");
        due.orders(x, "~1,0;*1,0", -8006);
        due.orders(x, "*1,0;~1,0;*1,0", -8011);
        due.is("still WOOD", x.placeIs(1, 0, 0), 1);
        due.sentence("ORDERS, FAULT 8: not ahead of the end of the LINE");
        due.orders(x, "*2", -1002);
        due.orders(x, "*2,", -1003);
        due.orders(x, "*2,x", -1003);
        due.orders(x, "*2,8", -3003);
        due.orders(x, "*2,00000", -2007);
        due.orders(x, "*2,0000", -8001);
    }

    private static void toldThings(Due due) {
        due.sentence("ORDERS: @: VALUE, SUM as they are, 0 at first");
        InsuredFlame x = Due.flame("#", "7@0,0", "");
        int[] first = {0, 0, 0, 0, 0};
        for (int what = 0; what < 5; what++) {
            due.is("thingIs 7, " + what, x.thingIs(7, what), first[what]);
        }
        due.orders(x, "7=50;7+20;7@5,5", 3);
        int[] then = {65, 50, 20, 0, 8};
        for (int what = 0; what < 5; what++) {
            due.is("thingIs 7, " + what, x.thingIs(7, what), then[what]);
        }
        due.sentence("ORDERS: @: it is told, there, not GONE");
        InsuredFlame y = Due.flame("#", "7@0,0;7=50;*0,0", "");
        y.minutes(1);
        due.is("GONE", y.thingIs(7, 3), 1);
        due.is("LOST", y.count(9), 50);
        due.orders(y, "7@11,7", 1);
        due.is("not GONE", y.thingIs(7, 3), 0);
        due.is("there", y.placeIs(11, 7, 3), 1 << 7);
        due.is("not here", y.placeIs(0, 0, 3), 0);
        due.is("VALUE as it was", y.thingIs(7, 1), 50);
        due.is("none LOST", y.count(9), 0);
        due.is("no GONE ones", y.count(2), 0);
        due.sentence("ORDERS: = and + leave a GONE THING GONE");
        InsuredFlame z = Due.flame("#", "7@0,0;7=50;*0,0", "");
        z.minutes(1);
        due.orders(z, "7=60;7+1", 2);
        due.is("GONE", z.thingIs(7, 3), 1);
        due.is("LOST", z.count(9), 60);
    }

    private static void amounts(Due due) {
        due.sentence("ORDERS: VALUE 0 to 9999, SUM 0 to 9999");
        InsuredFlame x = Due.flame("", "23@0,0", "");
        for (int amount : new int[] {0, 1, 9, 10, 255, 256, 999, 1000, 9998, 9999}) {
            due.orders(x, "23=" + amount, 1);
            due.is("VALUE", x.thingIs(23, 1), amount);
            due.orders(x, "23+" + amount, 1);
            due.is("SUM", x.thingIs(23, 2), amount);
        }
        due.sentence("THINGS: a SUM of 0: it is not insured");
        InsuredFlame y = Due.flame("#", "0@0,0;0=5;0+7;0+0;1@0,0;1=5;1+1;*0,0", "");
        due.is("v", y.placeIs(0, 0, 4), 5);
        due.is("i", y.placeIs(0, 0, 5), 1);
        y.minutes(1);
        due.is("GONE ones", y.count(2), 1);
        due.sentence("ORDERS: a later LINE stands");
        due.orders(x, "23=1;23=2;23+3;23+4", 4);
        due.is("VALUE", x.thingIs(23, 1), 2);
        due.is("SUM", x.thingIs(23, 2), 4);
    }

    private static void litPlaces(Due due) {
        due.sentence("ORDERS: *: a PLACE of WOOD that is WHOLE is BURNING, 3 MINUTES yet");
        InsuredFlame x = Due.flame(Due.ALL_WOOD, "", "b9(1=1)");
        int[][] places = {{0, 0}, {11, 0}, {0, 7}, {11, 7}};
        for (int[] place : places) {
            due.orders(x, "*" + place[0] + "," + place[1], 1);
            due.is("BURNING", x.placeIs(place[0], place[1], 1), 1);
            due.is("3 yet", x.placeIs(place[0], place[1], 2), 3);
        }
        due.is("no others", x.count(3), 4);
        due.is("they stay WOOD", x.placeIs(11, 7, 0), 1);
    }

    private static void wateredPlaces(Due due) {
        due.sentence("ORDERS: ~: it is WATER, WHOLE, whatever it was");
        InsuredFlame x = Due.flame("4#+~.", "*0,0;*1,0", "");
        x.minutes(1);
        Due.orders(x, "*2,0");
        x.minutes(2);
        due.is("BURNT", x.count(4), 2);
        due.is("BURNING", x.count(3), 1);
        due.orders(x, "~0,0;~2,0;~3,0;~4,0;~5,0;~6,0;~11,7", 7);
        for (int p : new int[] {0, 2, 3, 4, 5, 6, 95}) {
            due.is("WATER " + p, x.placeIs(p % 12, p / 12, 0), 3);
            due.is("WHOLE " + p, x.placeIs(p % 12, p / 12, 1), 0);
            due.is("no MINUTES " + p, x.placeIs(p % 12, p / 12, 2), 0);
        }
        due.is("BURNT", x.count(4), 1);
        due.is("BURNING", x.count(3), 0);
    }

    private static void wind(Due due) {
        due.sentence("ORDERS: ! and a digit 0 to 3 (WIND)");
        InsuredFlame x = new InsuredFlame();
        for (int wind : new int[] {3, 2, 1, 0}) {
            due.orders(x, "!" + wind, 1);
            due.is("count 5", x.count(5), wind);
        }
        due.sentence("ORDERS: a WIND of 4 to 9 can't stand there");
        for (int wind = 4; wind < 10; wind++) {
            due.orders(x, "!" + wind, -1001);
        }
        due.is("count 5", x.count(5), 0);
    }

    private static void nothingByAFault(Due due) {
        due.sentence("ORDERS: nothing is done by ORDERS with a FAULT");
        String lines = "0@1,0;1=5;1+6;*0,0;~2,0;!3;";
        for (String wrong : new String[] {"x", "", "!4", "24", "2=1", "*2,0", "*0,0", "1=00000", "1@12,0", "!1;!1;!1;!1;!1;!1;!1;!1;!1;!1;!1"}) {
            InsuredFlame x = Due.flame("4#", "1@3,0;1=8;1+9;!1", "");
            due.is("orders .. " + wrong, Due.orders(x, lines + wrong) < -999, true);
            due.is("told", x.count(1), 2);
            due.is("VALUE", x.thingIs(1, 1), 8);
            due.is("SUM", x.thingIs(1, 2), 9);
            due.is("BURNING", x.count(3), 0);
            due.is("no WATER", x.placeIs(2, 0, 0), 1);
            due.is("WIND", x.count(5), 1);
        }
    }

    private static void thingBounds(Due due) {
        due.sentence("promise 9: THING 0 to 23, a told one");
        InsuredFlame x = new InsuredFlame();
        for (int i = 0; i < 24; i++) {
            due.is("thingIs " + i + " ahead", x.thingIs(i, 0), -1);
            Due.orders(x, i + "@2,1");
            due.is("thingIs " + i, x.thingIs(i, 0), 14);
        }
        due.sentence("promise 9: NONE: no such ones (the THING)");
        for (int i : new int[] {-1, 24, 25, 32, 33, 64, -32, -9, Integer.MAX_VALUE, Integer.MIN_VALUE}) {
            for (int what = 0; what < 5; what++) {
                due.is("thingIs " + i + ", " + what, x.thingIs(i, what), -1);
            }
        }
        due.sentence("promise 9: NONE: no such ones (what)");
        for (int what : new int[] {-1, 5, 6, Integer.MAX_VALUE, Integer.MIN_VALUE}) {
            due.is("thingIs 0, " + what, x.thingIs(0, what), -1);
        }
        due.sentence("promise 9: NONE: a THING that is not told, whatever is asked");
        InsuredFlame y = Due.flame("", "5@0,0", "");
        for (int what = -1; what < 6; what++) {
            due.is("thingIs 6, " + what, y.thingIs(6, what), -1);
        }
        due.sentence("promise 9: the PLACE (12 Y and X), 0 to 95");
        due.orders(x, "0@0,0;1@11,0;2@0,7;3@11,7", 4);
        int[] places = {0, 11, 84, 95};
        for (int i = 0; i < 4; i++) {
            due.is("thingIs " + i + ", 0", x.thingIs(i, 0), places[i]);
        }
    }

    private static void paid(Due due) {
        due.sentence("PAID: its VALUE, if the SUM is no less; else the SUM times the SUM through its VALUE, rounded down");
        int[][] rows = {{0, 0, 0}, {0, 1, 0}, {0, 9999, 0}, {1, 0, 0}, {1, 1, 1}, {1, 2, 1}, {9999, 0, 0}, {9999, 1, 0}, {9999, 9999, 9999}, {9998, 9999, 9998}, {9999, 9998, 9997}, {9999, 5000, 2500}, {9999, 100, 1}, {9999, 99, 0}, {10, 9, 8}, {10, 3, 0}, {10, 4, 1}, {50, 20, 8}, {3, 2, 1}, {2, 1, 0}, {4, 2, 1}};
        for (int[] row : rows) {
            InsuredFlame x = Due.flame("", "9@0,0;9=" + row[0] + ";9+" + row[1], "");
            due.is("PAID of VALUE " + row[0] + ", SUM " + row[1], x.thingIs(9, 4), row[2]);
        }
        due.sentence("PAID for a THING, if it were lost: of a GONE one alike");
        InsuredFlame x = Due.flame("#", "9@0,0;9=50;*0,0", "");
        x.minutes(1);
        Due.orders(x, "9+20");
        due.is("PAID", x.thingIs(9, 4), 8);
    }
}
