/** A town whose fire spares what is insured; ../shared/DOC.md says what each call answers. */
public final class InsuredFlame {
    public static final int NONE = -1;

    private static final int NEVER = -2;
    private static final int UNFIT = -3;

    private static final int WIDE = 12;
    private static final int HIGH = 8;
    private static final int PLACES = 96;
    private static final int THINGS = 24;
    private static final int WAYS = 4;

    private static final int BARE = 0;
    private static final int WOOD = 1;
    private static final int INSURED_WOOD = 2;
    private static final int WATER = 3;

    private static final int WHOLE = 0;
    private static final int BURNING = 1;
    private static final int BURNT = 2;

    private static final int TAPE_MOST = 260;
    private static final int LAW_MOST = 240;
    private static final int TOWN_MOST = 120;
    private static final int ORDERS_MOST = 120;
    private static final int MINUTES_MOST = 100;
    private static final int LAST_MINUTE = 9999;

    private final int[] tape = new int[TAPE_MOST];
    private int fed = 0;

    private final Scene now = new Scene();
    private final Scene kept = new Scene();
    private final Scene trial = new Scene();
    private boolean hasKept = false;

    private Law ruling = new Law();
    private Law drafted = new Law();

    private final LawReader lawReader = new LawReader();
    private final TownReader townReader = new TownReader();
    private final OrdersReader ordersReader = new OrdersReader();
    private final Fire fire = new Fire();
    private final Ground ground = new Ground();
    private final Cut cut = new Cut();
    private final Clerk clerk = new Clerk();

    public InsuredFlame() {
    }

    public int feed(int a, int b, int c, int d, int e) {
        if (fed + 20 > TAPE_MOST) {
            return NONE;
        }
        putBytes(a);
        putBytes(b);
        putBytes(c);
        putBytes(d);
        putBytes(e);
        return fed;
    }

    public int law(int n) {
        if (!canTake(n, 1, LAW_MOST)) {
            return NONE;
        }
        fed = 0;
        int answer = lawReader.read(tape, n, drafted);
        if (answer >= 0) {
            Law before = ruling;
            ruling = drafted;
            drafted = before;
        }
        return answer;
    }

    public int town(int n) {
        if (!canTake(n, 1, TOWN_MOST)) {
            return NONE;
        }
        fed = 0;
        int fault = townReader.read(tape, n);
        if (fault < 0) {
            return fault;
        }
        now.buildAnew(townReader.kinds);
        return now.placesOf(WOOD);
    }

    public int orders(int n) {
        if (!canTake(n, 1, ORDERS_MOST)) {
            return NONE;
        }
        fed = 0;
        trial.copyFrom(now);
        int answer = ordersReader.read(tape, n, trial);
        if (answer >= 0) {
            now.copyFrom(trial);
        }
        return answer;
    }

    public int minutes(int n) {
        if (!isWithin(n, 1, MINUTES_MOST)) {
            return NONE;
        }
        fire.burnFor(now, ruling, n);
        return now.placesThatAre(BURNING);
    }

    public int tried(int n, int what) {
        if (!isWithin(n, 1, MINUTES_MOST) || !isWithin(what, 0, 4)) {
            return NONE;
        }
        trial.copyFrom(now);
        fire.burnFor(trial, ruling, n);
        switch (what) {
            case 0:
                return trial.placesThatAre(BURNING);
            case 1:
                return trial.placesThatAre(BURNT);
            case 2:
                return trial.lostValue() - now.lostValue();
            case 3:
                return trial.gone;
            default:
                return trial.sumsInFire();
        }
    }

    public int placeIs(int x, int y, int what) {
        if (!isPlace(x, y)) {
            return NONE;
        }
        int place = WIDE * y + x;
        switch (what) {
            case 0:
                return now.kind[place];
            case 1:
                return now.state[place];
            case 2:
                return now.left[place];
            case 3:
                return now.thingsAt(place);
            case 4:
                return now.bareValueAt(place);
            case 5:
                return now.insuredSumAt(place);
            default:
                return NONE;
        }
    }

    public int thingIs(int i, int what) {
        if (!isWithin(i, 0, THINGS - 1) || !now.isTold(i)) {
            return NONE;
        }
        switch (what) {
            case 0:
                return now.at[i];
            case 1:
                return now.value[i];
            case 2:
                return now.sum[i];
            case 3:
                return now.isGone(i) ? 1 : 0;
            case 4:
                return now.paidFor(i);
            default:
                return NONE;
        }
    }

    public int comes(int x, int y, int n) {
        if (!isPlace(x, y) || !isWithin(n, 1, MINUTES_MOST)) {
            return NONE;
        }
        int place = WIDE * y + x;
        trial.copyFrom(now);
        for (int m = 0; m <= n; m++) {
            if (trial.state[place] != WHOLE) {
                return m;
            }
            fire.burnFor(trial, ruling, 1);
        }
        return NEVER;
    }

    public int over(int n) {
        if (!isWithin(n, 1, MINUTES_MOST)) {
            return NONE;
        }
        trial.copyFrom(now);
        for (int m = 0; m <= n; m++) {
            if (trial.placesThatAre(BURNING) == 0) {
                return m;
            }
            fire.burnFor(trial, ruling, 1);
        }
        return NEVER;
    }

    public int steps(int from, int to) {
        if (!isNumber(from) || !isNumber(to)) {
            return NONE;
        }
        if (now.kind[from] != WOOD || now.kind[to] != WOOD) {
            return UNFIT;
        }
        ground.clear();
        ground.light(from);
        ground.goOver(now.kind);
        int time = ground.time[to];
        return time < 0 ? NEVER : time;
    }

    public int began(int n, int what) {
        if (!isWithin(n, 0, 60) || !isWithin(what, 0, 1)) {
            return NONE;
        }
        int many = 0;
        int lowest = NEVER;
        for (int place = PLACES - 1; place >= 0; place--) {
            if (now.isWoodOnFire(place) && ground.explains(now, place, n)) {
                many++;
                lowest = place;
            }
        }
        return what == 0 ? many : lowest;
    }

    public int breaks(int from, int to) {
        if (!isNumber(from) || !isNumber(to) || from == to) {
            return NONE;
        }
        if (now.kind[from] != WOOD || now.kind[to] != WOOD) {
            return UNFIT;
        }
        return areNext(from, to) ? NEVER : cut.fewest(now.kind, from, to);
    }

    public int getsOut(int from) {
        if (!isNumber(from)) {
            return NONE;
        }
        if (now.kind[from] == WATER || now.state[from] == BURNING) {
            return UNFIT;
        }
        ground.burnFrom(now);
        return ground.walkOut(now.kind, from);
    }

    public int safe(int what) {
        if (!isWithin(what, 0, 1)) {
            return NONE;
        }
        ground.burnFrom(now);
        int many = 0;
        int lowest = NEVER;
        for (int place = PLACES - 1; place >= 0; place--) {
            if (now.kind[place] == WOOD && ground.time[place] < 0) {
                many++;
                lowest = place;
            }
        }
        return what == 0 ? many : lowest;
    }

    public int insure(int n, int much, int what) {
        boolean fits = isWithin(much, 0, 2550) && isWithin(what, 0, 2);
        if (!fits || !isWithin(n, 1, 10) || 2 * n > fed) {
            return NONE;
        }
        fed = 0;
        int bits = Clerk.bestPolicies(tape, n, much);
        if (what == 2) {
            return bits;
        }
        return Clerk.sumOf(tape, n, bits, what);
    }

    public int roundFigure(int v) {
        return isWithin(v, 1, 999999) ? Clerk.nearestFigure(v) : NONE;
    }

    public int ruin(int n, int first, int what) {
        if (!isWithin(n, 2, 6) || !isWithin(first, 0, n - 1) || !isWithin(what, 0, 1) || n * n > fed) {
            return NONE;
        }
        fed = 0;
        int lost = Clerk.ruinedBy(tape, n, first);
        return what == 0 ? Integer.bitCount(lost) : lost;
    }

    public int carried(int n) {
        if (!isWithin(n, 1, 10) || 3 * n > fed) {
            return NONE;
        }
        fed = 0;
        return clerk.mostCarried(tape, n);
    }

    public int premium(int n, int what) {
        if (!isWithin(n, 1, 8) || !isWithin(what, 0, 1) || 2 * n > fed) {
            return NONE;
        }
        fed = 0;
        return Clerk.oddsOf(tape, n, what);
    }

    public int woods(int what) {
        if (!isWithin(what, 0, 1)) {
            return NONE;
        }
        int groups = 0;
        int largest = 0;
        ground.clear();
        for (int place = 0; place < PLACES; place++) {
            if (now.kind[place] == WOOD && ground.time[place] < 0) {
                int before = ground.reached;
                ground.light(place);
                ground.goOver(now.kind);
                groups++;
                largest = Math.max(largest, ground.reached - before);
            }
        }
        return what == 0 ? groups : largest;
    }

    public boolean seed(int x) {
        if (!isWithin(x, 0, 65535)) {
            return false;
        }
        now.x = x;
        return true;
    }

    public int keep() {
        kept.copyFrom(now);
        hasKept = true;
        return now.minute;
    }

    public boolean undo() {
        if (!hasKept) {
            return false;
        }
        now.copyAllButKinds(kept);
        now.mendWhatIsNoWood();
        return true;
    }

    public int check(int n) {
        if (!canTake(n, 0, THINGS)) {
            return NEVER;
        }
        fed = 0;
        for (int i = 0; i < n; i++) {
            if (tape[i] != now.lowValueOf(i)) {
                return i;
            }
        }
        return NONE;
    }

    public int count(int what) {
        switch (what) {
            case 0:
                return now.minute;
            case 1:
                return now.told;
            case 2:
                return now.gone;
            case 3:
                return now.placesThatAre(BURNING);
            case 4:
                return now.placesThatAre(BURNT);
            case 5:
                return now.wind;
            case 6:
                return ruling.rules;
            case 7:
                return fed;
            case 8:
                return now.x;
            case 9:
                return now.lostValue();
            default:
                return NONE;
        }
    }

    private void putBytes(int word) {
        for (int shift = 24; shift >= 0 && fed < TAPE_MOST; shift -= 8) {
            tape[fed] = (word >>> shift) & 255;
            fed++;
        }
    }

    private boolean canTake(int n, int least, int most) {
        return isWithin(n, least, most) && n <= fed;
    }

    private static boolean isWithin(int n, int least, int most) {
        return n >= least && n <= most;
    }

    private static boolean isNumber(int place) {
        return isWithin(place, 0, PLACES - 1);
    }

    private static boolean isPlace(int x, int y) {
        return isWithin(x, 0, WIDE - 1) && isWithin(y, 0, HIGH - 1);
    }

    /** The PLACE NEXT to a PLACE (0 up, 1 right, 2 down, 3 left); NONE beyond the edge of THE TOWN. */
    private static int nextTo(int place, int way) {
        int x = place % WIDE;
        int y = place / WIDE;
        switch (way) {
            case 0:
                return y > 0 ? place - WIDE : NONE;
            case 1:
                return x < WIDE - 1 ? place + 1 : NONE;
            case 2:
                return y < HIGH - 1 ? place + WIDE : NONE;
            default:
                return x > 0 ? place - 1 : NONE;
        }
    }

    private static boolean areNext(int one, int other) {
        for (int way = 0; way < WAYS; way++) {
            if (nextTo(one, way) == other) {
                return true;
            }
        }
        return false;
    }

    /** All that a fire can change, and what the PLACES are of: so that it can be tried, kept and undone. */
    private static final class Scene {
        final int[] kind = new int[PLACES];
        final int[] state = new int[PLACES];
        final int[] left = new int[PLACES];
        final int[] at = new int[THINGS];
        final int[] value = new int[THINGS];
        final int[] sum = new int[THINGS];
        int told = 0;
        int gone = 0;
        int wind = 0;
        int minute = 0;
        int x = 1;

        void copyFrom(Scene other) {
            System.arraycopy(other.kind, 0, kind, 0, PLACES);
            copyAllButKinds(other);
        }

        void copyAllButKinds(Scene other) {
            System.arraycopy(other.state, 0, state, 0, PLACES);
            System.arraycopy(other.left, 0, left, 0, PLACES);
            System.arraycopy(other.at, 0, at, 0, THINGS);
            System.arraycopy(other.value, 0, value, 0, THINGS);
            System.arraycopy(other.sum, 0, sum, 0, THINGS);
            told = other.told;
            gone = other.gone;
            wind = other.wind;
            minute = other.minute;
            x = other.x;
        }

        void buildAnew(int[] kinds) {
            for (int place = 0; place < PLACES; place++) {
                kind[place] = kinds[place];
                setState(place, WHOLE, 0);
            }
        }

        void mendWhatIsNoWood() {
            for (int place = 0; place < PLACES; place++) {
                if (kind[place] != WOOD) {
                    setState(place, WHOLE, 0);
                }
            }
        }

        void setState(int place, int newState, int minutesLeft) {
            state[place] = newState;
            left[place] = minutesLeft;
        }

        int draw() {
            x = (25173 * x + 13849) & 65535;
            return x % 10;
        }

        boolean isWholeWood(int place) {
            return kind[place] == WOOD && state[place] == WHOLE;
        }

        boolean isWoodOnFire(int place) {
            return kind[place] == WOOD && state[place] != WHOLE;
        }

        int placesOf(int wanted) {
            int many = 0;
            for (int place = 0; place < PLACES; place++) {
                if (kind[place] == wanted) {
                    many++;
                }
            }
            return many;
        }

        int placesThatAre(int wanted) {
            int many = 0;
            for (int place = 0; place < PLACES; place++) {
                if (state[place] == wanted) {
                    many++;
                }
            }
            return many;
        }

        int burningNextTo(int place) {
            int many = 0;
            for (int way = 0; way < WAYS; way++) {
                int next = nextTo(place, way);
                if (next >= 0 && state[next] == BURNING) {
                    many++;
                }
            }
            return many;
        }

        boolean isTold(int thing) {
            return (told >>> thing & 1) != 0;
        }

        boolean isGone(int thing) {
            return (gone >>> thing & 1) != 0;
        }

        boolean isLeftAt(int thing, int place) {
            return isTold(thing) && !isGone(thing) && at[thing] == place;
        }

        int thingsAt(int place) {
            int bits = 0;
            for (int thing = 0; thing < THINGS; thing++) {
                if (isLeftAt(thing, place)) {
                    bits |= 1 << thing;
                }
            }
            return bits;
        }

        int bareValueAt(int place) {
            int all = 0;
            for (int thing = 0; thing < THINGS; thing++) {
                if (sum[thing] == 0 && isLeftAt(thing, place)) {
                    all += value[thing];
                }
            }
            return all;
        }

        int insuredSumAt(int place) {
            int all = 0;
            for (int thing = 0; thing < THINGS; thing++) {
                if (isLeftAt(thing, place)) {
                    all += sum[thing];
                }
            }
            return all;
        }

        int sumsInFire() {
            int all = 0;
            for (int thing = 0; thing < THINGS; thing++) {
                if (isTold(thing) && !isGone(thing) && state[at[thing]] != WHOLE) {
                    all += sum[thing];
                }
            }
            return all;
        }

        int lostValue() {
            int all = 0;
            for (int thing = 0; thing < THINGS; thing++) {
                if (isGone(thing)) {
                    all += value[thing];
                }
            }
            return all;
        }

        void loseBareThingsAt(int place) {
            for (int thing = 0; thing < THINGS; thing++) {
                if (sum[thing] == 0 && isLeftAt(thing, place)) {
                    gone |= 1 << thing;
                }
            }
        }

        int paidFor(int thing) {
            int worth = value[thing];
            int insured = sum[thing];
            if (insured >= worth || worth <= 0) {
                return worth;
            }
            return insured * insured / worth;
        }

        /** The VALUE as one byte tells it; a THING that is not told has VALUE 0 all along. */
        int lowValueOf(int thing) {
            return isGone(thing) ? 0 : value[thing] & 255;
        }
    }

    /** A TEXT that is read from the left; behind its first FAULT nothing more can be read of it. */
    private static final class Text {
        static final int END = -1;

        private int[] bytes = new int[0];
        private int length = 0;
        private int fault = 0;
        private int faultPlace = 0;
        int pos = 0;

        void begin(int[] source, int n) {
            bytes = source;
            length = Math.min(n, source.length);
            fault = 0;
            faultPlace = 0;
            pos = 0;
        }

        boolean isGood() {
            return fault == 0;
        }

        boolean isAtEnd() {
            return pos >= length;
        }

        int sign() {
            return fault == 0 && pos >= 0 && pos < length ? bytes[pos] : END;
        }

        boolean isDigit() {
            int sign = sign();
            return sign >= '0' && sign <= '9';
        }

        void skip() {
            pos++;
        }

        void expect(int sign) {
            if (sign() == sign) {
                pos++;
            } else {
                fail(1, pos);
            }
        }

        void fail(int number, int place) {
            if (fault == 0) {
                fault = number;
                faultPlace = place;
            }
        }

        int number(int mostDigits) {
            int number = 0;
            for (int k = 0; k <= mostDigits; k++) {
                int sign = sign();
                if (sign < '0' || sign > '9') {
                    if (k == 0) {
                        fail(1, pos);
                    }
                    break;
                }
                if (k == mostDigits) {
                    fail(2, pos);
                    break;
                }
                number = 10 * number + sign - '0';
                pos++;
            }
            return number;
        }

        int answerOr(int good) {
            return fault == 0 ? good : -1000 * fault - faultPlace;
        }
    }

    /** Reads A TOWN into rows of its own, so that a FAULT leaves the town that stands as it is. */
    private static final class TownReader {
        final int[] kinds = new int[PLACES];
        private final Text text = new Text();

        int read(int[] tape, int n) {
            text.begin(tape, n);
            for (int place = 0; place < PLACES; place++) {
                kinds[place] = BARE;
            }
            boolean more = true;
            for (int y = 0; y <= HIGH && more; y++) {
                readRow(y);
                more = text.sign() == '/';
                if (more) {
                    text.skip();
                }
            }
            return text.answerOr(0);
        }

        private void readRow(int y) {
            if (y == HIGH && canBeginSign()) {
                text.fail(4, text.pos);
            }
            int x = 0;
            boolean more = true;
            for (int k = 0; k <= WIDE && more; k++) {
                x = readSign(x, y);
                more = text.isGood() && !text.isAtEnd() && text.sign() != '/';
            }
        }

        private boolean canBeginSign() {
            return isCount() || kindOf(text.sign()) >= 0;
        }

        private boolean isCount() {
            return text.sign() >= '2' && text.sign() <= '9';
        }

        private int readSign(int x, int y) {
            int first = text.pos;
            int many = 1;
            if (isCount()) {
                many = text.sign() - '0';
                text.skip();
            }
            int kind = kindOf(text.sign());
            if (kind < 0) {
                text.fail(1, text.pos);
            } else if (x + many > WIDE) {
                text.fail(6, first);
            } else {
                text.skip();
                for (int k = 0; k < many; k++) {
                    put(x + k, y, kind);
                }
            }
            return x + many;
        }

        private void put(int x, int y, int kind) {
            if (isPlace(x, y)) {
                kinds[WIDE * y + x] = kind;
            }
        }

        private static int kindOf(int sign) {
            switch (sign) {
                case '.':
                    return BARE;
                case '#':
                    return WOOD;
                case '+':
                    return INSURED_WOOD;
                case '~':
                    return WATER;
                default:
                    return NONE;
            }
        }
    }

    /** Reads ORDERS and does them at once, to a scene that is thrown away if a FAULT comes. */
    private static final class OrdersReader {
        private static final int LINES_MOST = 16;
        private static final int DIGITS_MOST = 4;
        private static final int LIT_MINUTES = 3;

        private final Text text = new Text();

        int read(int[] tape, int n, Scene scene) {
            text.begin(tape, n);
            int lines = 0;
            boolean more = true;
            for (int k = 0; k <= LINES_MOST && more; k++) {
                readLine(scene, k);
                lines++;
                more = text.sign() == ';';
                if (more) {
                    text.skip();
                }
            }
            return text.answerOr(lines);
        }

        private void readLine(Scene scene, int linesAhead) {
            int sign = text.sign();
            boolean canBegin = text.isDigit() || sign == '*' || sign == '~' || sign == '!';
            if (!canBegin) {
                text.fail(1, text.pos);
            } else if (linesAhead >= LINES_MOST) {
                text.fail(4, text.pos);
            } else if (sign == '*') {
                readLighting(scene);
            } else if (sign == '~') {
                readWatering(scene);
            } else if (sign == '!') {
                readWind(scene);
            } else {
                readThing(scene);
            }
        }

        private void readLighting(Scene scene) {
            text.skip();
            int first = text.pos;
            int place = readPlace();
            if (text.isGood() && isNumber(place)) {
                if (scene.isWholeWood(place)) {
                    scene.setState(place, BURNING, LIT_MINUTES);
                } else {
                    text.fail(8, first);
                }
            }
            // The LINE ends with its Y: what can't stand behind it is a FAULT further to the right.
            endLine();
        }

        private void readWatering(Scene scene) {
            text.skip();
            int place = readPlace();
            endLine();
            if (text.isGood() && isNumber(place)) {
                scene.kind[place] = WATER;
                scene.setState(place, WHOLE, 0);
            }
        }

        private void readWind(Scene scene) {
            text.skip();
            int sign = text.sign();
            if (sign >= '0' && sign <= '3') {
                scene.wind = sign - '0';
                text.skip();
                endLine();
            } else {
                text.fail(1, text.pos);
            }
        }

        private void readThing(Scene scene) {
            int first = text.pos;
            int thing = readBounded(THINGS - 1);
            int sign = text.sign();
            if (!text.isGood() || !isWithin(thing, 0, THINGS - 1)) {
                return;
            }
            if (sign == '@') {
                text.skip();
                int place = readPlace();
                endLine();
                tellThing(scene, thing, place);
            } else if (sign != '=' && sign != '+') {
                text.fail(1, text.pos);
            } else if (!scene.isTold(thing)) {
                text.fail(7, first);
            } else {
                text.skip();
                int amount = text.number(DIGITS_MOST);
                endLine();
                int[] row = sign == '=' ? scene.value : scene.sum;
                row[thing] = amount;
            }
        }

        private void tellThing(Scene scene, int thing, int place) {
            if (text.isGood() && isNumber(place)) {
                scene.at[thing] = place;
                scene.told |= 1 << thing;
                scene.gone &= ~(1 << thing);
            }
        }

        private int readPlace() {
            int x = readBounded(WIDE - 1);
            text.expect(',');
            int y = readBounded(HIGH - 1);
            return WIDE * y + x;
        }

        private int readBounded(int most) {
            int first = text.pos;
            int number = text.number(DIGITS_MOST);
            if (number > most) {
                text.fail(3, first);
            }
            return number;
        }

        private void endLine() {
            if (!text.isAtEnd() && text.sign() != ';') {
                text.fail(1, text.pos);
            }
        }
    }

    /** THE LAW as steps for a small machine with a stack; each byte of its TEXT makes one step at most. */
    private static final class Law {
        static final int PUSH = 1;
        static final int LETTER = 2;
        static final int NOT = 3;
        /** Leaves a 0 and jumps, or takes the value away and goes on: so no more is asked than matters. */
        static final int AND = 4;
        /** As AND, with a 1 that is left. */
        static final int OR = 5;

        static final int RULES_MOST = 16;
        private static final int STEPS_MOST = LAW_MOST;
        /** Two values wait at most for each of six brackets and what is around them. */
        private static final int STACK_MOST = 32;

        private final int[] ops = new int[STEPS_MOST];
        private final int[] args = new int[STEPS_MOST];
        private final int[] stack = new int[STACK_MOST];
        private final int[] ruleLetter = new int[RULES_MOST];
        private final int[] amountAt = new int[RULES_MOST];
        private final int[] conditionAt = new int[RULES_MOST];
        private final int[] ruleEnd = new int[RULES_MOST];
        private int size = 0;
        private int lettersUsed = 0;
        int rules = 0;

        void clear() {
            size = 0;
            rules = 0;
            lettersUsed = 0;
        }

        void beginRule(int letter) {
            if (rules < RULES_MOST) {
                ruleLetter[rules] = letter;
                amountAt[rules] = size;
            }
        }

        void beginCondition() {
            if (rules < RULES_MOST) {
                conditionAt[rules] = size;
            }
        }

        void endRule() {
            if (rules < RULES_MOST) {
                ruleEnd[rules] = size;
                rules++;
            }
        }

        /** Answers where the step stands, for a chain of jumps that wait for their aim. */
        int emit(int op, int arg) {
            if (size >= STEPS_MOST) {
                return NONE;
            }
            ops[size] = op;
            args[size] = arg;
            if (op == LETTER) {
                lettersUsed |= 1 << arg;
            }
            size++;
            return size - 1;
        }

        /** Aims all jumps of a chain (each one's arg is the jump ahead of it) at the step that comes next. */
        void aimHere(int lastJump) {
            int jump = lastJump;
            for (int k = 0; k < STEPS_MOST && jump >= 0 && jump < STEPS_MOST; k++) {
                int ahead = args[jump];
                args[jump] = size;
                jump = ahead;
            }
        }

        boolean asksFor(int letter) {
            return (lettersUsed >>> letter & 1) != 0;
        }

        int amountOf(int letter, int[] letters, int least, int most) {
            for (int rule = 0; rule < rules; rule++) {
                if (ruleLetter[rule] == letter && holds(rule, letters)) {
                    int amount = run(amountAt[rule], conditionAt[rule], letters);
                    return Math.max(least, Math.min(most, amount));
                }
            }
            return least;
        }

        boolean anyHolds(int letter, int[] letters) {
            for (int rule = 0; rule < rules; rule++) {
                if (ruleLetter[rule] == letter && holds(rule, letters)) {
                    return true;
                }
            }
            return false;
        }

        private boolean holds(int rule, int[] letters) {
            return run(conditionAt[rule], ruleEnd[rule], letters) != 0;
        }

        /** What is REFUSED is 0, and so both an E of 0 and a C that does not hold. */
        private int run(int from, int to, int[] letters) {
            int depth = 0;
            int at = from;
            for (int k = 0; k < STEPS_MOST && at >= 0 && at < to; k++) {
                int op = ops[at];
                int arg = args[at];
                at++;
                if (op == PUSH || op == LETTER) {
                    if (depth >= STACK_MOST) {
                        return 0;
                    }
                    stack[depth] = op == PUSH ? arg : letters[arg];
                    depth++;
                } else if (depth < 1) {
                    return 0;
                } else if (op == NOT) {
                    stack[depth - 1] = 1 - stack[depth - 1];
                } else if (op == AND || op == OR) {
                    if ((stack[depth - 1] != 0) == (op == OR)) {
                        at = arg;
                    } else {
                        depth--;
                    }
                } else {
                    depth--;
                    boolean divides = op == '/' || op == '%';
                    if (depth < 1 || divides && stack[depth] == 0) {
                        return 0;
                    }
                    stack[depth - 1] = reckon(op, stack[depth - 1], stack[depth]);
                }
            }
            return depth < 1 ? 0 : stack[depth - 1];
        }

        private static int reckon(int op, int a, int b) {
            switch (op) {
                case '+':
                    return a + b;
                case '-':
                    return a - b;
                case '*':
                    return a * b;
                case '/':
                    return b == 0 ? 0 : a / b;
                case '%':
                    return b == 0 ? 0 : a % b;
                case '<':
                    return a < b ? 1 : 0;
                case '>':
                    return a > b ? 1 : 0;
                default:
                    return a == b ? 1 : 0;
            }
        }
    }

    /** Reads THE LAW; {@code open} is how many of ( [ ! stand open, which keeps the calls low. */
    private static final class LawReader {
        private static final String LETTERS = "pmnvidgtw";
        private static final int DIGITS_MOST = 5;
        private static final int OPEN_MOST = 6;

        private final Text text = new Text();

        int read(int[] tape, int n, Law draft) {
            text.begin(tape, n);
            draft.clear();
            boolean more = true;
            for (int k = 0; k <= Law.RULES_MOST && more; k++) {
                int letter = readLetter(draft, k);
                if (letter == 'b' || letter == 's') {
                    readAmount(draft, 0);
                }
                draft.beginCondition();
                text.expect('(');
                readCondition(draft, 1);
                text.expect(')');
                draft.endRule();
                more = text.sign() == ';';
                if (more) {
                    text.skip();
                } else if (!text.isAtEnd()) {
                    text.fail(1, text.pos);
                }
            }
            return text.answerOr(draft.rules);
        }

        private int readLetter(Law draft, int rulesAhead) {
            int letter = text.sign();
            if (letter != 'b' && letter != 's' && letter != 'x') {
                text.fail(1, text.pos);
            } else if (rulesAhead >= Law.RULES_MOST) {
                text.fail(4, text.pos);
            } else {
                text.skip();
                draft.beginRule(letter);
            }
            return letter;
        }

        private void readCondition(Law draft, int open) {
            int ands = NONE;
            int ors = NONE;
            readTest(draft, open);
            for (int k = 0; k < LAW_MOST; k++) {
                int sign = text.sign();
                if (sign == '&') {
                    ands = draft.emit(Law.AND, ands);
                } else if (sign == '|') {
                    draft.aimHere(ands);
                    ands = NONE;
                    ors = draft.emit(Law.OR, ors);
                } else {
                    break;
                }
                text.skip();
                readTest(draft, open);
            }
            draft.aimHere(ands);
            draft.aimHere(ors);
        }

        private void readTest(Law draft, int open) {
            int sign = text.sign();
            boolean opens = sign == '!' || sign == '(';
            if (opens && open >= OPEN_MOST) {
                text.fail(5, text.pos);
            } else if (sign == '!') {
                text.skip();
                readTest(draft, open + 1);
                draft.emit(Law.NOT, 0);
            } else if (sign == '(') {
                text.skip();
                readCondition(draft, open + 1);
                text.expect(')');
            } else {
                readAmount(draft, open);
                int compares = text.sign();
                if (compares == '<' || compares == '>' || compares == '=') {
                    text.skip();
                    readAmount(draft, open);
                    draft.emit(compares, 0);
                } else {
                    text.fail(1, text.pos);
                }
            }
        }

        /** An E: the + or - of a TERM waits till the TERM has ended. */
        private void readAmount(Law draft, int open) {
            int waiting = 0;
            readFactor(draft, open);
            for (int k = 0; k < LAW_MOST; k++) {
                int sign = text.sign();
                if (sign == '*' || sign == '/' || sign == '%') {
                    text.skip();
                    readFactor(draft, open);
                    draft.emit(sign, 0);
                    continue;
                }
                if (waiting != 0) {
                    draft.emit(waiting, 0);
                }
                if (sign != '+' && sign != '-') {
                    break;
                }
                waiting = sign;
                text.skip();
                readFactor(draft, open);
            }
        }

        private void readFactor(Law draft, int open) {
            int sign = text.sign();
            if (sign == '[') {
                if (open >= OPEN_MOST) {
                    text.fail(5, text.pos);
                    return;
                }
                text.skip();
                readAmount(draft, open + 1);
                text.expect(']');
            } else if (text.isDigit()) {
                draft.emit(Law.PUSH, text.number(DIGITS_MOST));
            } else {
                int letter = sign < 0 ? NONE : LETTERS.indexOf((char) sign);
                if (letter < 0) {
                    text.fail(1, text.pos);
                    return;
                }
                draft.emit(Law.LETTER, letter);
                text.skip();
            }
        }
    }

    /** Lets MINUTES go by. */
    private static final class Fire {
        private final int[] letters = new int[9];
        private final int[] burning = new int[PLACES];

        void burnFor(Scene scene, Law law, int n) {
            for (int k = 0; k < n && scene.minute < LAST_MINUTE; k++) {
                passMinute(scene, law);
            }
        }

        /** The BURNING ones are listed first: one that takes fire in this MINUTE waits till the next. */
        private void passMinute(Scene scene, Law law) {
            int many = 0;
            for (int place = 0; place < PLACES; place++) {
                if (scene.state[place] == BURNING) {
                    burning[many] = place;
                    many++;
                }
            }
            for (int k = 0; k < many; k++) {
                scene.loseBareThingsAt(burning[k]);
                for (int way = 0; way < WAYS; way++) {
                    tryWay(scene, law, burning[k], way);
                }
                burnDown(scene, law, burning[k]);
            }
            scene.minute++;
        }

        private void tryWay(Scene scene, Law law, int from, int way) {
            int place = nextTo(from, way);
            if (place < 0 || !scene.isWholeWood(place)) {
                return;
            }
            setLetters(scene, law, place, scene.left[from], way, 0);
            int tenths = law.amountOf('s', letters, 0, 10);
            if (scene.draw() < tenths) {
                setLetters(scene, law, place, 0, 0, 0);
                scene.setState(place, BURNING, law.amountOf('b', letters, 1, 9));
            }
        }

        private void burnDown(Scene scene, Law law, int place) {
            int drawn = scene.draw();
            int left = scene.left[place];
            setLetters(scene, law, place, left, 0, drawn);
            if (left <= 1 || law.anyHolds('x', letters)) {
                scene.setState(place, BURNT, 0);
            } else {
                scene.setState(place, BURNING, left - 1);
            }
        }

        /** In the order of LawReader.LETTERS; what takes a search is looked for only if THE LAW names it. */
        private void setLetters(Scene scene, Law law, int place, int left, int way, int drawn) {
            letters[0] = place;
            letters[1] = left;
            letters[2] = law.asksFor(2) ? scene.burningNextTo(place) : 0;
            letters[3] = law.asksFor(3) ? scene.bareValueAt(place) : 0;
            letters[4] = law.asksFor(4) ? scene.insuredSumAt(place) : 0;
            letters[5] = way;
            letters[6] = scene.wind;
            letters[7] = scene.minute % 100;
            letters[8] = drawn;
        }
    }

    /** A FIRE that goes over for sure, and one who walks away from it. */
    private static final class Ground {
        /** The MINUTE at which the FIRE comes to a PLACE; NONE: never. */
        final int[] time = new int[PLACES];
        int reached = 0;

        private final int[] queue = new int[PLACES];
        private int spreadFrom = 0;
        private final int[] walkTime = new int[PLACES];
        private final int[] walkQueue = new int[PLACES];

        void clear() {
            for (int place = 0; place < PLACES; place++) {
                time[place] = NONE;
            }
            reached = 0;
            spreadFrom = 0;
        }

        void light(int place) {
            reach(place, 0);
        }

        private void reach(int place, int when) {
            if (time[place] < 0 && reached < PLACES) {
                time[place] = when;
                queue[reached] = place;
                reached++;
            }
        }

        /** Goes on from what was lit since the last time, so that groups can be told one after another. */
        void goOver(int[] kind) {
            for (int k = spreadFrom; k < reached && k < PLACES; k++) {
                int place = queue[k];
                for (int way = 0; way < WAYS; way++) {
                    int next = nextTo(place, way);
                    if (next >= 0 && kind[next] == WOOD) {
                        reach(next, time[place] + 1);
                    }
                }
            }
            spreadFrom = reached;
        }

        void burnFrom(Scene scene) {
            clear();
            for (int place = 0; place < PLACES; place++) {
                if (scene.state[place] == BURNING) {
                    light(place);
                }
            }
            goOver(scene.kind);
        }

        boolean explains(Scene scene, int start, int minutesAgo) {
            clear();
            light(start);
            goOver(scene.kind);
            for (int place = 0; place < PLACES; place++) {
                boolean taken = time[place] >= 0 && time[place] <= minutesAgo;
                if (taken != scene.isWoodOnFire(place)) {
                    return false;
                }
            }
            return true;
        }

        /** He who comes later is never better off, so only the first time he can be at a PLACE counts. */
        int walkOut(int[] kind, int from) {
            for (int place = 0; place < PLACES; place++) {
                walkTime[place] = NONE;
            }
            walkTime[from] = 0;
            walkQueue[0] = from;
            int many = 1;
            for (int k = 0; k < many && k < PLACES; k++) {
                int place = walkQueue[k];
                int when = walkTime[place] + 1;
                if (isEdge(place)) {
                    return walkTime[place];
                }
                for (int way = 0; way < WAYS; way++) {
                    int next = nextTo(place, way);
                    boolean isNew = next >= 0 && walkTime[next] < 0 && many < PLACES;
                    if (isNew && kind[next] != WATER && isFreeAt(next, when)) {
                        walkTime[next] = when;
                        walkQueue[many] = next;
                        many++;
                    }
                }
            }
            return NEVER;
        }

        private boolean isFreeAt(int place, int when) {
            return time[place] < 0 || when < time[place];
        }

        private static boolean isEdge(int place) {
            int x = place % WIDE;
            int y = place / WIDE;
            return x == 0 || x == WIDE - 1 || y == 0 || y == HIGH - 1;
        }
    }

    /**
     * The fewest PLACES that part two others are as many as the ways between the two that share no PLACE.
     * Each PLACE is two nodes, its way in (0 to 95) and its way out (96 to 191): one way only goes through.
     */
    private static final class Cut {
        private static final int NODES = 2 * PLACES;

        private final boolean[] goesThrough = new boolean[PLACES];
        private final boolean[] goesTo = new boolean[WAYS * PLACES];
        private final int[] cameFrom = new int[NODES];
        private final int[] queue = new int[NODES];
        private int queued = 0;

        int fewest(int[] kind, int from, int to) {
            for (int place = 0; place < PLACES; place++) {
                goesThrough[place] = false;
            }
            for (int arc = 0; arc < WAYS * PLACES; arc++) {
                goesTo[arc] = false;
            }
            int ways = 0;
            for (int k = 0; k < WAYS && findWay(kind, from, to); k++) {
                takeWay(from, to);
                ways++;
            }
            return ways;
        }

        private boolean findWay(int[] kind, int from, int to) {
            for (int node = 0; node < NODES; node++) {
                cameFrom[node] = NONE;
            }
            queued = 0;
            visit(PLACES + from, PLACES + from);
            for (int k = 0; k < queued && k < NODES && cameFrom[to] < 0; k++) {
                if (queue[k] >= PLACES) {
                    leave(kind, queue[k] - PLACES);
                } else {
                    enter(kind, queue[k]);
                }
            }
            return cameFrom[to] >= 0;
        }

        private void visit(int node, int before) {
            if (cameFrom[node] < 0 && queued < NODES) {
                cameFrom[node] = before;
                queue[queued] = node;
                queued++;
            }
        }

        private void leave(int[] kind, int place) {
            for (int way = 0; way < WAYS; way++) {
                int next = nextTo(place, way);
                if (next >= 0 && kind[next] == WOOD && !goesTo[WAYS * place + way]) {
                    visit(next, PLACES + place);
                }
            }
            if (goesThrough[place]) {
                visit(place, PLACES + place);
            }
        }

        /** A way that was taken before may be gone back, which frees it for another. */
        private void enter(int[] kind, int place) {
            if (!goesThrough[place]) {
                visit(PLACES + place, place);
            }
            for (int way = 0; way < WAYS; way++) {
                int next = nextTo(place, way);
                if (next >= 0 && kind[next] == WOOD && goesTo[WAYS * next + (way + 2) % WAYS]) {
                    visit(PLACES + next, place);
                }
            }
        }

        private void takeWay(int from, int to) {
            int node = to;
            for (int k = 0; k < NODES && node != PLACES + from; k++) {
                int before = cameFrom[node];
                if (before < 0) {
                    return;
                }
                boolean goesOn = before >= PLACES;
                int place = before % PLACES;
                int other = node % PLACES;
                if (place == other) {
                    goesThrough[place] = !goesOn;
                } else if (goesOn) {
                    mark(place, other, true);
                } else {
                    mark(other, place, false);
                }
                node = before;
            }
        }

        private void mark(int place, int next, boolean goes) {
            for (int way = 0; way < WAYS; way++) {
                if (nextTo(place, way) == next) {
                    goesTo[WAYS * place + way] = goes;
                }
            }
        }
    }

    /** What is reckoned from the tape's bytes alone; the callers have seen that it has so many. */
    private static final class Clerk {
        private static final int LARGEST_FIGURE = 1000000;
        private static final int CARRIED_MOST = 10;

        private final int[] order = new int[CARRIED_MOST];

        static int bestPolicies(int[] tape, int n, int much) {
            int best = 0;
            int bestWorth = 0;
            int bestPremium = 0;
            for (int bits = 1; bits < 1 << n; bits++) {
                int cost = sumOf(tape, n, bits, 1);
                if (cost > much) {
                    continue;
                }
                int worth = sumOf(tape, n, bits, 0);
                if (worth > bestWorth || worth == bestWorth && cost < bestPremium) {
                    best = bits;
                    bestWorth = worth;
                    bestPremium = cost;
                }
            }
            return best;
        }

        /** Of pairs of bytes: the sum of the first (0) or second (1) bytes of those in bits. */
        static int sumOf(int[] tape, int n, int bits, int which) {
            int all = 0;
            for (int i = 0; i < n; i++) {
                if ((bits >>> i & 1) != 0) {
                    all += tape[2 * i + which];
                }
            }
            return all;
        }

        static int nearestFigure(int v) {
            int best = 1;
            for (int ten = 1; ten <= LARGEST_FIGURE; ten *= 10) {
                best = nearer(v, best, ten);
                best = nearer(v, best, 2 * ten);
                best = nearer(v, best, 5 * ten);
            }
            return best;
        }

        /** Of like ones the lower: figures come in rising order, so a later one must be nearer. */
        private static int nearer(int v, int best, int figure) {
            return Math.abs(v - figure) < Math.abs(v - best) ? figure : best;
        }

        static int ruinedBy(int[] tape, int n, int first) {
            int lost = 1 << first;
            for (int round = 0; round < n; round++) {
                int next = lost;
                for (int i = 0; i < n; i++) {
                    if ((lost >>> i & 1) == 0 && !canPay(tape, n, lost, i)) {
                        next |= 1 << i;
                    }
                }
                lost = next;
            }
            return lost;
        }

        private static boolean canPay(int[] tape, int n, int lost, int i) {
            int left = tape[n * i + i];
            for (int j = 0; j < n; j++) {
                if (j != i && (lost >>> j & 1) == 0) {
                    left += tape[n * j + i] - tape[n * i + j];
                }
            }
            return left >= 0;
        }

        /** If things can be out in time at all, they are by taking first what must be out first. */
        int mostCarried(int[] tape, int n) {
            for (int i = 0; i < n; i++) {
                if (tape[3 * i] < 1 || tape[3 * i] > 60) {
                    return NEVER;
                }
                putInOrder(tape, i);
            }
            int most = 0;
            for (int bits = 1; bits < 1 << n; bits++) {
                most = Math.max(most, worthInTime(tape, n, bits));
            }
            return most;
        }

        private void putInOrder(int[] tape, int thing) {
            int k = thing;
            for (; k > 0 && tape[3 * order[k - 1] + 2] > tape[3 * thing + 2]; k--) {
                order[k] = order[k - 1];
            }
            order[k] = thing;
        }

        private int worthInTime(int[] tape, int n, int bits) {
            int worth = 0;
            int time = 0;
            for (int k = 0; k < n; k++) {
                int thing = order[k];
                if ((bits >>> thing & 1) != 0) {
                    time += tape[3 * thing];
                    worth += tape[3 * thing + 1];
                    if (time > tape[3 * thing + 2]) {
                        return 0;
                    }
                }
            }
            return worth;
        }

        static int oddsOf(int[] tape, int n, int what) {
            int mean = 0;
            int odds = 1;
            for (int i = 0; i < n; i++) {
                int tenths = tape[2 * i + 1];
                if (tenths > 10) {
                    return NEVER;
                }
                mean += tape[2 * i] * tenths;
                odds *= tenths;
            }
            return what == 0 ? mean : odds;
        }
    }
}
