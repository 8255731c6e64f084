/** Promises 4 and 8: town, placeIs. */
public final class TownTest {
    public static void main(String[] args) {
        Due due = new Due();
        whatIsTold(due);
        faults(due);
        whatStays(due);
        wrongOnes(due);
        due.end();
    }

    private static void whatIsTold(Due due) {
        InsuredFlame x = new InsuredFlame();
        due.town(x, "#.+~2#2.2+2~/9~3#", 6);
        int[] first = {1, 0, 2, 3, 1, 1, 0, 0, 2, 2, 3, 3};
        for (int p = 0; p < 12; p++) {
            due.is("kind " + p, x.placeIs(p, 0, 0), first[p]);
            due.is("kind of row 1, " + p, x.placeIs(p, 1, 0), p < 9 ? 3 : 1);
            due.is("kind of row 2, " + p, x.placeIs(p, 2, 0), 0);
        }
        due.town(x, "9#3#/9#3#/9#3#/9#3#/9#3#/9#3#/9#3#/9#3#", 96);
        due.is("the last place", x.placeIs(11, 7, 0), 1);
        StringBuilder longest = new StringBuilder();
        for (int y = 0; y < 8; y++) {
            longest.append(y == 0 ? "" : "/").append("############");
        }
        due.town(x, longest.toString(), 96);
        due.town(x, ".", 0);
        due.is("no more wood", x.placeIs(11, 7, 0), 0);
    }

    private static void faults(Due due) {
        InsuredFlame x = new InsuredFlame();
        due.town(x, " #", -1000);
        due.town(x, "# ", -1001);
        due.town(x, "0#", -1000);
        due.town(x, "1#", -1000);
        due.town(x, "10#", -1000);
        due.town(x, "22#", -1001);
        due.town(x, "2", -1001);
        due.town(x, "2/", -1001);
        due.town(x, "#//#", -1002);
        due.town(x, "#/", -1002);
        due.town(x, "/", -1000);
        due.town(x, "#@", -1001);
        due.town(x, "9#9#", -6002);
        due.town(x, "9#4.", -6002);
        due.town(x, "9#3##", -6004);
        due.town(x, "#############", -6012);
        due.town(x, "###########2#", -6011);
        due.town(x, "9#3#x", -1004);
        due.town(x, "9#3#/9#3#2~", -6009);
        due.town(x, ".9#2.", 9);
        due.town(x, ".9#3.", -6003);
        due.town(x, "9#4x", -1003);
        due.town(x, "9#4", -1003);
        due.town(x, "./././././././.", 0);
        due.town(x, "./././././././././.", -4016);
        due.town(x, "./././././././././", -4016);
        due.town(x, "././././././././/", -1016);
        due.town(x, "./././././././../x", -1017);
        due.town(x, "./././././././../1", -1017);
        due.town(x, "./././././././../9", -4017);
    }

    private static void whatStays(Due due) {
        InsuredFlame x = new InsuredFlame();
        Due.town(x, "##");
        Due.orders(x, "*0,0;5@1,0;5=7;!3");
        x.minutes(1);
        due.town(x, "#x", -1001);
        due.is("a FAULT leaves fire", x.placeIs(0, 0, 1), 1);
        due.is("a FAULT leaves wood", x.placeIs(1, 0, 0), 1);
        due.town(x, "##", 2);
        due.is("all is WHOLE", x.placeIs(0, 0, 1), 0);
        due.is("no MINUTES yet", x.placeIs(0, 0, 2), 0);
        due.is("things stay", x.thingIs(5, 1), 7);
        due.is("wind stays", x.count(5), 3);
        due.is("the minute stays", x.count(0), 1);
    }

    private static void wrongOnes(Due due) {
        InsuredFlame x = new InsuredFlame();
        due.is("x -1", x.placeIs(-1, 0, 0), -1);
        due.is("x 12", x.placeIs(12, 0, 0), -1);
        due.is("y -1", x.placeIs(0, -1, 0), -1);
        due.is("y 8", x.placeIs(0, 8, 0), -1);
        due.is("what -1", x.placeIs(0, 0, -1), -1);
        due.is("what 6", x.placeIs(0, 0, 6), -1);
        due.is("greatest", x.placeIs(Integer.MAX_VALUE, Integer.MAX_VALUE, Integer.MAX_VALUE), -1);
    }
}
