/** Promises 12 to 16 and 22 at their bounds: steps, began, breaks, getsOut, safe, woods. */
public final class GroundEdgesTest {
    /** One way through the town, 53 PLACES long: from (0, 0) to (10, 0), down and up by columns. */
    private static final String SNAKE = "#.3#.3#.#/#.#.#.#.#.#/#.#.#.#.#.#/#.#.#.#.#.#/#.#.#.#.#.#/#.#.#.#.#.#/#.#.#.#.#.#/3#.3#.3#";
    private static final int[] NO_SUCH_PLACE = {-1, -96, 96, 97, 192, Integer.MAX_VALUE, Integer.MIN_VALUE};
    private static final int[] NO_SUCH_WHAT = {-1, 2, 3, Integer.MAX_VALUE, Integer.MIN_VALUE};

    public static void main(String[] args) {
        Due due = new Due();
        stepsBounds(due);
        stepsAnswers(due);
        stepsAllOver(due);
        beganBounds(due);
        beganAnswers(due);
        beganFarAway(due);
        breaksBounds(due);
        breaksAnswers(due);
        breaksNext(due);
        getsOutBounds(due);
        getsOutEdges(due);
        getsOutOfFire(due);
        getsOutAround(due);
        safeBounds(due);
        safeAnswers(due);
        woodsBounds(due);
        woodsAnswers(due);
        due.end();
    }

    private static void stepsBounds(Due due) {
        due.sentence("promise 12: PLACES 0 to 95 each");
        InsuredFlame x = Due.flame(Due.ALL_WOOD, "", "");
        due.is("steps 0, 95", x.steps(0, 95), 18);
        due.is("steps 95, 0", x.steps(95, 0), 18);
        due.sentence("promise 12: NONE: no such ones");
        for (int wrong : NO_SUCH_PLACE) {
            due.is("steps " + wrong + ", 0", x.steps(wrong, 0), -1);
            due.is("steps 0, " + wrong, x.steps(0, wrong), -1);
            due.is("steps " + wrong + " twice", x.steps(wrong, wrong), -1);
        }
        due.sentence("promise 12: NONE, not -3, if one is no such PLACE and the other no WOOD");
        InsuredFlame y = new InsuredFlame();
        due.is("steps -1, 0", y.steps(-1, 0), -1);
        due.is("steps 0, 96", y.steps(0, 96), -1);
    }

    private static void stepsAnswers(Due due) {
        due.sentence("promise 12: to the same PLACE");
        InsuredFlame x = Due.flame("#.+~##", "", "");
        due.is("steps 0, 0", x.steps(0, 0), 0);
        due.sentence("promise 12: -3: one is no WOOD (BARE, INSURED WOOD, WATER)");
        for (int p = 1; p < 4; p++) {
            due.is("steps 0, " + p, x.steps(0, p), -3);
            due.is("steps " + p + ", 0", x.steps(p, 0), -3);
            due.is("steps " + p + " to itself", x.steps(p, p), -3);
        }
        due.sentence("promise 12: -2: it never comes");
        due.is("steps 0, 4", x.steps(0, 4), -2);
        due.is("steps 4, 0", x.steps(4, 0), -2);
        due.sentence("a FIRE: over to WOOD, WHOLE or not, no WIND");
        InsuredFlame y = Due.flame("5#", "*1,0;*3,0;!3", "");
        y.minutes(2);
        Due.orders(y, "*2,0");
        y.minutes(1);
        due.is("through BURNT, BURNING", y.steps(0, 4), 4);
        due.is("from BURNT to BURNT", y.steps(1, 3), 2);
        due.sentence("a FIRE: none over an edge of THE TOWN");
        InsuredFlame z = Due.flame("9.2.#/#/9./9./9./9./9./#9.2#", "", "");
        due.is("11 to 12", z.steps(11, 12), -2);
        due.is("11 to 95", z.steps(11, 95), -2);
        due.is("12 to 84", z.steps(12, 84), -2);
        due.is("84 to 95", z.steps(84, 95), -2);
        due.sentence("promise 12: the longest way");
        InsuredFlame w = Due.flame(SNAKE, "", "");
        due.is("steps to its end", w.steps(0, 10), 52);
        due.is("steps back", w.steps(10, 0), 52);
    }

    private static void stepsAllOver(Due due) {
        due.sentence("promise 12: STEPS between any two of a town of WOOD");
        for (int from = 0; from < 96; from++) {
            InsuredFlame x = Due.flame(Due.ALL_WOOD, "", "");
            for (int to = 0; to < 96; to++) {
                int far = Math.abs(from % 12 - to % 12) + Math.abs(from / 12 - to / 12);
                due.is("steps " + from + ", " + to, x.steps(from, to), far);
            }
        }
    }

    private static void beganBounds(Due due) {
        due.sentence("promise 13: n MINUTES (0 to 60) ago");
        InsuredFlame x = Due.flame("3#", "*0,0;*1,0;*2,0", "");
        due.is("began 0, 0", x.began(0, 0), 0);
        due.is("began 60, 0", x.began(60, 0), 3);
        due.sentence("promise 13: NONE: no such ones (n)");
        for (int n : new int[] {-1, -60, 61, 62, 100, Integer.MAX_VALUE, Integer.MIN_VALUE}) {
            due.is("began " + n + ", 0", x.began(n, 0), -1);
            due.is("began " + n + ", 1", x.began(n, 1), -1);
        }
        due.sentence("promise 13: NONE: no such ones (what)");
        for (int what : NO_SUCH_WHAT) {
            due.is("began 1, " + what, x.began(1, what), -1);
            due.is("began 61, " + what, x.began(61, what), -1);
        }
    }

    private static void beganAnswers(Due due) {
        due.sentence("promise 13: the lowest (-2: none)");
        InsuredFlame x = Due.flame("5#", "", "");
        for (int n : new int[] {0, 1, 60}) {
            due.is("all WHOLE, how many", x.began(n, 0), 0);
            due.is("all WHOLE, the lowest", x.began(n, 1), -2);
        }
        due.is("no WOOD", new InsuredFlame().began(0, 0), 0);
        due.is("no WOOD, the lowest", new InsuredFlame().began(60, 1), -2);
        due.sentence("BEGAN: 0 MINUTES ago, one PLACE");
        Due.orders(x, "*4,0");
        due.is("how many", x.began(0, 0), 1);
        due.is("the lowest", x.began(0, 1), 4);
        due.is("1 ago", x.began(1, 0), 0);
        due.sentence("BEGAN: the lowest is PLACE 0");
        InsuredFlame y = Due.flame("##", "*0,0;*1,0", "");
        due.is("how many", y.began(1, 0), 2);
        due.is("the lowest", y.began(1, 1), 0);
        due.sentence("BEGAN: the lowest is PLACE 95");
        InsuredFlame z = Due.flame(Due.ALL_WOOD, "*11,7", "");
        due.is("the lowest", z.began(0, 1), 95);
        due.sentence("BEGAN: just those PLACES that are not WHOLE now: no more, no fewer, BURNING or BURNT");
        InsuredFlame w = Due.flame("5#.#", "*2,0", "");
        w.minutes(3);
        due.is("BURNT", w.began(0, 1), 2);
        Due.orders(w, "*1,0;*3,0");
        due.is("BURNT and BURNING", w.began(1, 1), 2);
        due.is("more would be", w.began(2, 0), 0);
        due.is("fewer would be", w.began(0, 0), 0);
        Due.orders(w, "*6,0");
        due.is("another group, too", w.began(1, 0), 0);
    }

    private static void beganFarAway(Due due) {
        due.sentence("BEGAN: all of a long way, from its end, its other end, and between them");
        InsuredFlame x = Due.flame(SNAKE, "*0,0", "s10(1=1);b9(1=1)");
        x.minutes(51);
        due.is("51 ago, how many", x.began(51, 0), 1);
        due.is("51 ago", x.began(51, 1), 0);
        due.is("52 ago", x.began(52, 0), 0);
        due.is("60 ago", x.began(60, 0), 0);
        x.minutes(1);
        due.is("all of it", x.count(3) + x.count(4), 53);
        due.is("52 ago, how many", x.began(52, 0), 53);
        due.is("51 ago, not from the ends", x.began(51, 0), 51);
        due.is("60 ago", x.began(60, 0), 53);
        due.is("60 ago, the lowest", x.began(60, 1), 0);
        due.is("26 ago, how many", x.began(26, 0), 1);
        due.is("25 ago", x.began(25, 0), 0);
    }

    private static void breaksBounds(Due due) {
        due.sentence("promise 14: PLACES 0 to 95");
        InsuredFlame x = Due.flame(Due.ALL_WOOD, "", "");
        due.is("breaks 0, 95", x.breaks(0, 95), 2);
        due.is("breaks 95, 0", x.breaks(95, 0), 2);
        due.sentence("promise 14: NONE: no such ones");
        for (int wrong : NO_SUCH_PLACE) {
            due.is("breaks " + wrong + ", 0", x.breaks(wrong, 0), -1);
            due.is("breaks 0, " + wrong, x.breaks(0, wrong), -1);
            due.is("breaks " + wrong + " twice", x.breaks(wrong, wrong), -1);
        }
        due.sentence("promise 14: NONE: the same, WOOD or not");
        for (int p : new int[] {0, 40, 95}) {
            due.is("breaks " + p + " twice", x.breaks(p, p), -1);
            due.is("breaks of BARE " + p + " twice", new InsuredFlame().breaks(p, p), -1);
        }
        due.sentence("promise 14: NONE, not -3, if one is no such PLACE and the other no WOOD");
        due.is("breaks -1, 0", new InsuredFlame().breaks(-1, 0), -1);
        due.is("breaks 0, 96", new InsuredFlame().breaks(0, 96), -1);
    }

    private static void breaksAnswers(Due due) {
        due.sentence("promise 14: -3: one is no WOOD (BARE, INSURED WOOD, WATER), NEXT or not");
        InsuredFlame x = Due.flame("#.+~#", "", "");
        for (int p = 1; p < 4; p++) {
            due.is("breaks 0, " + p, x.breaks(0, p), -3);
            due.is("breaks " + p + ", 4", x.breaks(p, 4), -3);
        }
        due.sentence("BREAKS: none must be, where no FIRE goes");
        due.is("breaks 0, 4", x.breaks(0, 4), 0);
        due.sentence("BREAKS: 1 to 4, the fewest");
        InsuredFlame y = Due.flame("3#", "", "");
        due.is("one way", y.breaks(0, 2), 1);
        InsuredFlame z = Due.flame(Due.ALL_WOOD, "", "");
        due.is("of a corner", z.breaks(0, 55), 2);
        due.is("of an edge", z.breaks(5, 55), 3);
        due.is("of the middle", z.breaks(40, 55), 4);
        due.is("of the middle, other edge", z.breaks(40, 93), 3);
        InsuredFlame w = Due.flame("9#3#/5#.6#/9#3#", "", "");
        due.is("through a narrow part", w.breaks(14, 22), 2);
        InsuredFlame v = Due.flame("5#.5#/9#3#/5#.5#", "", "");
        due.is("through one PLACE", v.breaks(13, 21), 1);
        due.sentence("BREAKS: of WOOD, WHOLE or not");
        Due.orders(v, "*5,1");
        due.is("BURNING", v.breaks(13, 21), 1);
        v.minutes(3);
        due.is("BURNT", v.breaks(13, 21), 1);
        due.sentence("BREAKS: none over an edge of THE TOWN");
        InsuredFlame u = Due.flame("9.2.#/#", "", "");
        due.is("11 to 12", u.breaks(11, 12), 0);
        due.is("11 to 12 in a town of WOOD", z.breaks(11, 12), 2);
        due.is("0 to 84", z.breaks(0, 84), 2);
        due.is("0 to 11", z.breaks(0, 11), 2);
    }

    private static void breaksNext(Due due) {
        due.sentence("promise 14: -2: they are NEXT to each other");
        for (int from = 0; from < 96; from++) {
            InsuredFlame x = Due.flame(Due.ALL_WOOD, "", "");
            for (int to = 0; to < 96; to++) {
                int far = Math.abs(from % 12 - to % 12) + Math.abs(from / 12 - to / 12);
                int fewest = Math.min(neighbours(from), neighbours(to));
                due.is("breaks " + from + ", " + to, x.breaks(from, to), far == 0 ? -1 : far == 1 ? -2 : fewest);
            }
        }
    }

    private static int neighbours(int p) {
        int x = p % 12;
        int y = p / 12;
        return 4 - (x == 0 || x == 11 ? 1 : 0) - (y == 0 || y == 7 ? 1 : 0);
    }

    private static void getsOutBounds(Due due) {
        due.sentence("promise 15: PLACES 0 to 95; at the edge of THE TOWN (X 0, 11, Y 0, 7) it is 0");
        InsuredFlame x = new InsuredFlame();
        for (int p = 0; p < 96; p++) {
            int far = Math.min(Math.min(p % 12, 11 - p % 12), Math.min(p / 12, 7 - p / 12));
            due.is("getsOut " + p, x.getsOut(p), far);
        }
        due.sentence("promise 15: NONE: no such PLACE");
        for (int wrong : NO_SUCH_PLACE) {
            due.is("getsOut " + wrong, x.getsOut(wrong), -1);
        }
    }

    private static void getsOutEdges(Due due) {
        due.sentence("promise 15: -3: it is WATER, also at the edge");
        InsuredFlame x = Due.flame("~#/#~/", "~0,0;~1,1;~11,7", "");
        for (int p : new int[] {0, 13, 95}) {
            due.is("getsOut " + p, x.getsOut(p), -3);
        }
        due.sentence("promise 15: -3: it is BURNING, also at the edge");
        InsuredFlame y = Due.flame("3#/3#", "*0,0;*1,1", "");
        due.is("getsOut 0", y.getsOut(0), -3);
        due.is("getsOut 13", y.getsOut(13), -3);
        due.sentence("promise 15: BURNT is not BURNING");
        y.minutes(3);
        due.is("getsOut 0", y.getsOut(0), 0);
        due.is("getsOut 13", y.getsOut(13), 1);
        due.sentence("GETS OUT: each step to a PLACE NEXT (no WATER): BARE, WOOD, INSURED WOOD");
        InsuredFlame z = Due.flame(".~/~.~/.~", "", "");
        due.is("shut in by WATER", z.getsOut(13), -2);
        for (String town : new String[] {".~/...~/.~", ".~/+.~/.~", ".~/#.~/.~"}) {
            due.is("getsOut of " + town, Due.flame(town, "", "").getsOut(13), 1);
        }
        due.sentence("GETS OUT: from WOOD, INSURED WOOD, BARE ground");
        for (String town : new String[] {"./.#", "./.+", "./.."}) {
            due.is("getsOut of " + town, Due.flame(town, "", "").getsOut(13), 1);
        }
    }

    private static void getsOutOfFire(Due due) {
        due.sentence("GETS OUT: at none at a MINUTE at which the FIRE has come there");
        InsuredFlame x = Due.flame(".#/#.#/.#", "*1,0;*0,1;*2,1;*1,2", "");
        due.is("shut in by fire", x.getsOut(13), -2);
        due.sentence("GETS OUT: nor at one at which it comes");
        InsuredFlame y = Due.flame("~#~/#.~/~#~", "*0,1;*1,0", "");
        due.is("the one way that no FIRE comes", y.getsOut(13), 3);
        InsuredFlame z = Due.flame("~~~/##~/~~~", "*0,1", "");
        due.is("he is caught where he stands, too", z.getsOut(13), -2);
        InsuredFlame w = Due.flame("~#/#.~/~~", "*1,0", "");
        due.is("by the other way", w.getsOut(13), 1);
        InsuredFlame v = Due.flame("~##/~.~/~~~", "*2,0", "");
        due.is("the FIRE comes there at MINUTE 1", v.getsOut(13), -2);
        InsuredFlame u = Due.flame("~3#/~.~/~~~", "*3,0", "");
        due.is("the FIRE comes there at MINUTE 2", u.getsOut(13), 1);
        due.sentence("GETS OUT: a FIRE goes over for sure, to WOOD that is BURNT, too, and by no LAW");
        InsuredFlame t = Due.flame("~##/~.~/~~~", "*1,0", "s0(1=1)");
        t.minutes(3);
        due.is("over BURNT WOOD", t.getsOut(13), 1);
        Due.orders(t, "*2,0");
        due.is("it comes at MINUTE 1", t.getsOut(13), -2);
    }

    private static void getsOutAround(Due due) {
        due.sentence("GETS OUT: the fewest MINUTES, around what burns");
        InsuredFlame x = Due.flame(".3~./.~.~./.~...~/.3~.~/4.~..~/4.3~", "", "");
        due.is("around WATER", x.getsOut(26), 4);
        InsuredFlame y = Due.flame("5./.#./...", "*1,1", "");
        due.is("beside a fire on BARE ground", y.getsOut(14), 1);
        due.sentence("GETS OUT: into a dead end, with the FIRE behind him");
        InsuredFlame z = Due.flame("~#~/~#~/~#~/~#~/~~~", "*1,0", "");
        due.is("at 1, 3", z.getsOut(37), -2);
        due.sentence("GETS OUT: ahead of the FIRE, which is as fast");
        InsuredFlame w = Due.flame("3~/~#~/~#~/~#~/~#~/~#~/~#~/~#~", "*1,1", "");
        due.is("from 1, 2 to 1, 7", w.getsOut(25), 5);
        due.is("from the edge", w.getsOut(85), 0);
    }

    private static void safeBounds(Due due) {
        due.sentence("promise 16: what 0, 1");
        InsuredFlame x = Due.flame("..3#", "", "");
        due.is("safe 0", x.safe(0), 3);
        due.is("safe 1", x.safe(1), 2);
        due.sentence("promise 16: NONE: no such what");
        for (int what : NO_SUCH_WHAT) {
            due.is("safe " + what, x.safe(what), -1);
        }
        due.sentence("promise 16: -2: none (no WOOD; all of it burns)");
        InsuredFlame y = new InsuredFlame();
        due.is("no WOOD", y.safe(0), 0);
        due.is("no WOOD, the lowest", y.safe(1), -2);
        InsuredFlame z = Due.flame(Due.ALL_WOOD, "*11,7", "");
        due.is("all of it", z.safe(0), 0);
        due.is("all of it, the lowest", z.safe(1), -2);
        due.sentence("promise 16: all, with no fire");
        InsuredFlame w = Due.flame(Due.ALL_WOOD, "", "");
        due.is("all", w.safe(0), 96);
        due.is("the lowest is PLACE 0", w.safe(1), 0);
    }

    private static void safeAnswers(Due due) {
        due.sentence("SAFE: PLACES of WOOD to which no FIRE from those BURNING now comes, none over an edge");
        InsuredFlame x = Due.flame("9.2.#/#/9./9./9./9./9./#9.2#", "*11,0", "");
        due.is("safe 0", x.safe(0), 4);
        due.is("safe 1", x.safe(1), 12);
        Due.orders(x, "*0,1;*0,7");
        due.is("the last two", x.safe(0), 2);
        due.is("the lowest", x.safe(1), 94);
        due.sentence("SAFE: INSURED WOOD is no WOOD, BURNT WOOD is, and no FIRE is from it");
        InsuredFlame y = Due.flame("##+#", "*0,0", "");
        due.is("behind INSURED WOOD", y.safe(0), 1);
        y.minutes(3);
        due.is("it is BURNT", y.safe(0), 3);
        due.is("the BURNT one is the lowest", y.safe(1), 0);
        Due.orders(y, "*1,0");
        due.is("it comes to BURNT WOOD, too", y.safe(1), 3);
    }

    private static void woodsBounds(Due due) {
        due.sentence("promise 22: what 0, 1");
        InsuredFlame x = Due.flame("##.#", "", "");
        due.is("woods 0", x.woods(0), 2);
        due.is("woods 1", x.woods(1), 2);
        due.sentence("promise 22: NONE: no such what");
        for (int what : NO_SUCH_WHAT) {
            due.is("woods " + what, x.woods(what), -1);
        }
        due.sentence("promise 22: none");
        InsuredFlame y = Due.flame("+~.", "", "");
        due.is("woods 0", y.woods(0), 0);
        due.is("woods 1", y.woods(1), 0);
        due.sentence("promise 22: one of 96 PLACES");
        InsuredFlame z = Due.flame(Due.ALL_WOOD, "", "");
        due.is("woods 0", z.woods(0), 1);
        due.is("woods 1", z.woods(1), 96);
        due.sentence("promise 22: 48 of one PLACE each");
        String row = "#.#.#.#.#.#";
        String other = ".#.#.#.#.#.#";
        InsuredFlame w = Due.flame(row + "/" + other + "/" + row + "/" + other + "/" + row + "/" + other + "/" + row + "/" + other, "", "");
        due.is("woods 0", w.woods(0), 48);
        due.is("woods 1", w.woods(1), 1);
    }

    private static void woodsAnswers(Due due) {
        due.sentence("promise 22: groups that hang together by PLACES NEXT, not over an edge, not by corners");
        InsuredFlame x = Due.flame("9.2.#/#/9./9./9./9./9./#9.2#", "", "");
        due.is("woods 0", x.woods(0), 4);
        due.is("woods 1", x.woods(1), 2);
        InsuredFlame y = Due.flame("#./.#", "", "");
        due.is("corners", y.woods(0), 2);
        due.sentence("promise 22: the largest is the first, the last, one between");
        due.is("first", Due.flame("3#.#.##", "", "").woods(1), 3);
        due.is("last", Due.flame("#.##.3#", "", "").woods(1), 3);
        due.is("between", Due.flame("#.3#.##", "", "").woods(1), 3);
        due.sentence("promise 22: BURNT and BURNING WOOD is WOOD, INSURED WOOD is none");
        InsuredFlame z = Due.flame("3#+#", "*1,0", "");
        due.is("BURNING", z.woods(0), 2);
        z.minutes(3);
        due.is("BURNT", z.woods(0), 2);
        due.is("the largest", z.woods(1), 3);
    }
}
