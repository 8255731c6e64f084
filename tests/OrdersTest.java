/** Promises 5 and 9: orders, thingIs. */
public final class OrdersTest {
    public static void main(String[] args) {
        Due due = new Due();
        things(due);
        paid(due);
        places(due);
        faults(due);
        lineEndsWithItsPlace(due);
        linesAtMost(due);
        nothingByAFault(due);
        due.end();
    }

    private static void things(Due due) {
        InsuredFlame x = new InsuredFlame();
        due.orders(x, "23@11,7;0023=9999;23+0042;0@0,0", 4);
        due.is("place", x.thingIs(23, 0), 95);
        due.is("value", x.thingIs(23, 1), 9999);
        due.is("sum", x.thingIs(23, 2), 42);
        due.is("gone", x.thingIs(23, 3), 0);
        due.is("told", x.count(1), 1 << 23 | 1);
        due.is("place's things", x.placeIs(11, 7, 3), 1 << 23);
        due.is("v of an insured one", x.placeIs(11, 7, 4), 0);
        due.is("i of an insured one", x.placeIs(11, 7, 5), 42);
        due.orders(x, "23+0;0=5;0@11,7", 3);
        due.is("v", x.placeIs(11, 7, 4), 10004);
        due.is("i", x.placeIs(11, 7, 5), 0);
        due.orders(x, "23@3,2", 1);
        due.is("moved", x.thingIs(23, 0), 27);
        due.is("value as it is", x.thingIs(23, 1), 9999);
        due.is("not told", x.thingIs(1, 0), -1);
        due.is("i -1", x.thingIs(-1, 0), -1);
        due.is("i 24", x.thingIs(24, 0), -1);
        due.is("i 32", x.thingIs(32, 0), -1);
        due.is("what 5", x.thingIs(0, 5), -1);
        due.is("what -1", x.thingIs(0, -1), -1);
        goneOnes(due);
    }

    private static void goneOnes(Due due) {
        InsuredFlame x = new InsuredFlame();
        Due.town(x, "#");
        Due.orders(x, "2@0,0;2=8;3@0,0;3=4;3+9;*0,0");
        x.minutes(1);
        due.is("gone", x.thingIs(2, 3), 1);
        due.is("insured, not gone", x.thingIs(3, 3), 0);
        due.is("things left there", x.placeIs(0, 0, 3), 8);
        due.is("v without the gone", x.placeIs(0, 0, 4), 0);
        due.orders(x, "2+50", 1);
        due.is("i without the gone", x.placeIs(0, 0, 5), 9);
        due.is("still gone", x.thingIs(2, 3), 1);
        due.is("lost", x.count(9), 8);
        due.orders(x, "2=6", 1);
        due.is("lost by its value now", x.count(9), 6);
        due.orders(x, "2@5,5", 1);
        due.is("told anew, not gone", x.thingIs(2, 3), 0);
        due.is("nothing lost", x.count(9), 0);
        due.is("sum as it was", x.thingIs(2, 2), 50);
    }

    private static void paid(Due due) {
        InsuredFlame x = new InsuredFlame();
        int[][] rows = {{0, 0, 0}, {0, 9, 0}, {10, 0, 0}, {10, 10, 10}, {10, 9999, 10}, {10, 9, 8}, {3, 2, 1}, {9999, 9998, 9997}, {7, 1, 0}};
        for (int[] row : rows) {
            Due.orders(x, "4@0,0;4=" + row[0] + ";4+" + row[1]);
            due.is("paid " + row[0] + ", " + row[1], x.thingIs(4, 4), row[2]);
        }
    }

    private static void places(Due due) {
        InsuredFlame x = new InsuredFlame();
        Due.town(x, "##+~.");
        due.orders(x, "*1,0;!2", 2);
        due.is("burning", x.placeIs(1, 0, 1), 1);
        due.is("3 minutes yet", x.placeIs(1, 0, 2), 3);
        due.is("wind", x.count(5), 2);
        due.orders(x, "~1,0;~2,0;~4,0", 3);
        for (int p = 1; p < 5; p++) {
            due.is("water " + p, x.placeIs(p, 0, 0), 3);
            due.is("whole " + p, x.placeIs(p, 0, 1), 0);
            due.is("no minutes " + p, x.placeIs(p, 0, 2), 0);
        }
        for (int w = 0; w < 4; w++) {
            due.orders(x, "!" + w, 1);
            due.is("wind " + w, x.count(5), w);
        }
        due.orders(x, "*0000,0000", 1);
        due.is("burning by long numbers", x.count(3), 1);
    }

    private static void faults(Due due) {
        InsuredFlame x = new InsuredFlame();
        Due.town(x, "#+~.");
        Due.orders(x, "0@0,0");
        String[] texts = {" 0=1", "0 =1", "0", "0=", "0+", "0=x", "0=1x", "0=1,", "0=12345", "00000@1,1", "24", "24@1,1", "24x", "9999=1", "0@12,0", "0@12", "0@12x", "0@1,8", "0@1,8;", "0@1,8x", "0@1,11111",
            "0@,1", "0@1;", "0@1,", "0@1,1;", "0@1,1;;", "1=5", "1=", "1+x", "1*1", "1~", "1", "1;", "*", "*0", "*0,0,", "*1,0", "*1,0,", "*2,0", "*3,0", "*4,0", "*12,0", "*0,8", "*0,0;*0,0", "*0,0;~0,0;*0,0",
            "~", "~12,0", "~0,8", "~0,0x", "!", "!4", "!x", "!12", "!1;", ";", "@1,1", "0@1,1;1=1", "1=1;1@1,1", "*00001,0", "=1", "0==1", "0@1.1", "0=1;1=1"};
        int[] wants = {-1000, -1001, -1001, -1002, -1002, -1002, -1003, -1003, -2006, -2004, -3000, -3000, -3000, -3000, -3002, -3002, -3002, -3004, -3004, -3004, -2008,
            -1002, -1003, -1004, -1006, -1006, -7000, -7000, -7000, -1001, -1001, -1001, -1001, -1001, -1002, -1004, -8001, -8001, -8001, -8001, -8001, -3001, -3003, -8006, -8011,
            -1001, -3001, -3003, -1004, -1001, -1001, -1001, -1002, -1003, -1000, -1000, -7006, -7000, -2005, -1000, -1002, -1003, -7004};
        due.is("as many wants", wants.length, texts.length);
        for (int k = 0; k < Math.min(texts.length, wants.length); k++) {
            due.orders(x, texts[k], wants[k]);
        }
        due.is("nothing is done", x.count(3), 0);
    }

    private static void lineEndsWithItsPlace(Due due) {
        InsuredFlame x = new InsuredFlame();
        Due.town(x, "##+~.");
        due.orders(x, "*4,0\0", -8001);
        due.orders(x, "*2,0x", -8001);
        due.orders(x, "*3,0*0,0", -8001);
        due.orders(x, "!1;*4,0@", -8004);
        due.orders(x, "*0,0x", -1004);
        due.orders(x, "*0,0;*0,0x", -8006);
        due.orders(x, "*4,00000", -2007);
        due.orders(x, "*4,0000x", -8001);
        due.orders(x, "*4,8x", -3003);
        due.orders(x, "*4,x", -1003);
        due.orders(x, "*4,", -1003);
        due.orders(x, "*4x", -1002);
        due.is("nothing is lit", x.count(3), 0);
    }

    private static void linesAtMost(Due due) {
        InsuredFlame x = new InsuredFlame();
        String sixteen = "!1;!1;!1;!1;!1;!1;!1;!1;!1;!1;!1;!1;!1;!1;!1;!3";
        due.orders(x, sixteen, 16);
        due.orders(x, sixteen + ";", -1048);
        due.orders(x, sixteen + ";x", -1048);
        due.orders(x, sixteen + ";24", -4048);
        due.orders(x, sixteen + ";*", -4048);
        due.orders(x, sixteen + ";~x", -4048);
        due.orders(x, sixteen + ";@", -1048);
    }

    private static void nothingByAFault(Due due) {
        InsuredFlame x = new InsuredFlame();
        Due.town(x, "##");
        due.orders(x, "0@1,0;0=5;0+6;*0,0;~1,0;!3;!4", -1028);
        due.is("no thing", x.count(1), 0);
        due.is("no fire", x.count(3), 0);
        due.is("no water", x.placeIs(1, 0, 0), 1);
        due.is("no wind", x.count(5), 0);
        due.orders(x, "0@1,0", 1);
        due.is("no value", x.thingIs(0, 1), 0);
        due.is("no sum", x.thingIs(0, 2), 0);
    }
}
