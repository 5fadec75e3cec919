import java.util.Arrays;

/** A wood of seats that sink as the matters clear for which one sits; the document's promises tell the rest. */
public final class MossSeats {
    public static final int NONE = -1;

    private static final int TRAY_COUNT = 4;
    private static final int SORT_COUNT = 4;
    private static final int TRAY_ROOM = 60;
    private static final int TAPE_ROOM = 900;
    private static final int FEED_BYTES = 20;
    private static final int YEARS_BYTES = 300;
    private static final int MATTER_ROOM = 6;
    private static final int HOLD_ROOM = 10;
    private static final int SITTER_ROOM = 7;
    private static final int NEWS_ROOM = 8;
    private static final int MARK_ROOM = 3;
    private static final int LAST_DAY = 9999;
    private static final int LAST_SEED = 9999;
    private static final int CLEAREST = 100;
    private static final int TALLEST = 99;
    private static final int FASTEST = 20;
    private static final int LAST_MILE = 59;
    private static final int HEAVIEST = 9;
    private static final int SIXTEENTHS = 16;
    private static final int USUAL_ODDS = 4;
    private static final int DAYS_AHEAD = 200;
    private static final int TWOS_DAYS = 40;
    private static final int TWOS_ROOM = 20;
    private static final int OFF_DAYS = 8;
    private static final int LONGEST_CRISIS = 12;
    private static final int GAME_TURNS = 4;
    private static final int MEAN_SEEDS = 20;

    private static final int FINE = 0;
    private static final int NO_TRAY = 1;
    private static final int NO_SUCH = 2;
    private static final int MISSING = 3;
    private static final int NO_PLACE = 4;
    private static final int BAD_NUMBER = 5;
    private static final int BELOW_ZERO = 6;
    private static final int ONE_TOO_MANY = 7;
    private static final int NOT_THERE = 8;
    private static final int CANNOT_BE = 9;
    private static final int FAULTY = 10;
    private static final int UNLIKE_SORTS = 11;

    private static final int FAULT_NO_TOKEN = 1;
    private static final int FAULT_PLACE = 2;
    private static final int FAULT_NAME = 3;
    private static final int FAULT_NUMBER = 4;
    private static final int FAULT_AGAIN = 5;
    private static final int FAULT_MANY = 6;
    private static final int FAULT_DEEP = 7;

    private int status;
    private long top;
    private long bottom;
    private final byte[] tape;
    private int tapeLength;
    private final Trays trays;
    private final Tokens tokens;
    private final WoodReader woodReader;
    private final YearsReader yearsReader;
    private final Wood wood;
    private final Wood trial;
    private final Wood[] marks;
    private int markCount;
    private final Run run;
    private final int[] lastLived;
    private boolean hasLived;
    private final Ahead ahead;
    private final Search search;
    private final Game play;

    public MossSeats() {
        status = FINE;
        top = 0;
        bottom = 1;
        tape = new byte[TAPE_ROOM];
        tapeLength = 0;
        trays = new Trays();
        tokens = new Tokens();
        woodReader = new WoodReader();
        yearsReader = new YearsReader();
        wood = new Wood();
        trial = new Wood();
        marks = new Wood[MARK_ROOM];
        for (int i = 0; i < MARK_ROOM; i++) {
            marks[i] = new Wood();
        }
        markCount = 0;
        run = new Run();
        lastLived = new int[Run.COUNTS];
        hasLived = false;
        ahead = new Ahead();
        search = new Search();
        play = new Game();
    }

    public int status() {
        return status;
    }

    public long top() {
        return top;
    }

    public long bottom() {
        return bottom;
    }

    // ---- TRAYS

    public boolean tray(int tray, int sort, int many) {
        if (!Trays.isTray(tray) || sort < 0 || sort >= SORT_COUNT) {
            return refuse(NO_TRAY);
        }
        if (many > TRAY_ROOM) {
            return refuse(BAD_NUMBER);
        }
        if (many < 0) {
            return refuse(BELOW_ZERO);
        }
        trays.lay(tray, sort, many);
        return agree();
    }

    public boolean write(int tray, int place, long v) {
        int why = trays.whyNot(tray, place, 1);
        if (why != FINE) {
            return refuse(why);
        }
        trays.put(tray, place, v);
        return agree();
    }

    public long read(int tray, int place) {
        int why = trays.whyNot(tray, place, 1);
        if (why != FINE) {
            return none(why);
        }
        status = FINE;
        return trays.rows[tray][place];
    }

    public boolean pour(int tray, int i, int to, int j, int many) {
        if (!Trays.isTray(tray) || !Trays.isTray(to)) {
            return refuse(NO_TRAY);
        }
        if (trays.isMissing(tray) || trays.isMissing(to)) {
            return refuse(MISSING);
        }
        if (trays.sorts[tray] != trays.sorts[to]) {
            return refuse(UNLIKE_SORTS);
        }
        if (many < 0) {
            return refuse(BELOW_ZERO);
        }
        if (!trays.has(tray, i, many) || !trays.has(to, j, many)) {
            return refuse(NO_PLACE);
        }
        System.arraycopy(trays.rows[tray], i, trays.rows[to], j, many);
        return agree();
    }

    // ---- texts

    public int feed(int a, int b, int c, int d, int e) {
        if (tapeLength > TAPE_ROOM - FEED_BYTES) {
            return NONE;
        }
        feedInt(a);
        feedInt(b);
        feedInt(c);
        feedInt(d);
        feedInt(e);
        return tapeLength;
    }

    public int wood(int n) {
        if (n < 0 || n > tapeLength) {
            return none(BAD_NUMBER);
        }
        tokens.open(tape, n);
        tapeLength = 0;
        // The trial wood is free between calls, so the old wood stands till the new one is known to be good.
        woodReader.readInto(trial, tokens);
        if (!tokens.areGood()) {
            return none(FAULTY);
        }
        wood.takeFrom(trial);
        return answer(wood.sitters);
    }

    public int years(int n) {
        if (n < 0 || n > tapeLength || n > YEARS_BYTES) {
            return none(BAD_NUMBER);
        }
        tokens.open(tape, n);
        tapeLength = 0;
        yearsReader.readInto(trial.program, tokens, wood);
        if (!tokens.areGood()) {
            return none(FAULTY);
        }
        wood.program.takeFrom(trial.program);
        return answer(wood.program.steps);
    }

    public int fault(int what) {
        if (what == 0) {
            return tokens.fault;
        }
        return what == 1 ? tokens.faultPlace : NONE;
    }

    public int many(int what) {
        switch (what) {
            case 0:
                return answer(wood.matters);
            case 1:
                return answer(wood.holds);
            case 2:
                return answer(wood.sitters);
            case 3:
                return answer(wood.newsTold);
            case 4:
                return answer(wood.odds);
            case 5:
                return answer(wood.today);
            case 6:
                return answer(wood.settledSet(wood.clear));
            case 7:
                return answer(wood.stuckSet(wood.clear));
            case 8:
                return answer(wood.downSet(wood.clear));
            case 9:
                return answer(wood.came);
            default:
                return none(BAD_NUMBER);
        }
    }

    public int matter(int matter, int what) {
        if (!wood.hasMatter(matter)) {
            return none(NO_SUCH);
        }
        switch (what) {
            case 0:
                return answer(wood.clear[matter]);
            case 1:
                return answer(wood.pace[matter]);
            case 2:
                return answer(wood.holdersOf(matter));
            case 3:
                return answer(wood.sittersFor(matter));
            case 4:
                return answerIfThere(wood.loadOf(matter));
            default:
                return none(BAD_NUMBER);
        }
    }

    public int hold(int hold, int what) {
        if (!wood.hasHold(hold)) {
            return none(NO_SUCH);
        }
        if (what == 0) {
            return answer(wood.held[hold]);
        }
        return what == 1 ? answer(wood.holder[hold]) : none(BAD_NUMBER);
    }

    public int sitter(int sitter, int what) {
        if (!wood.hasSitter(sitter)) {
            return none(NO_SUCH);
        }
        switch (what) {
            case 0:
                return answer(wood.mile[sitter]);
            case 1:
                return answer(wood.tall[sitter]);
            case 2:
                return answer(wood.sitsFor[sitter]);
            case 3:
                return answer(wood.weight[sitter]);
            case 4:
                return answer(wood.heightNow(sitter));
            default:
                return none(BAD_NUMBER);
        }
    }

    public int news(int news, int what) {
        if (!wood.hasNews(news)) {
            return none(NO_SUCH);
        }
        switch (what) {
            case 0:
                return answer(wood.newsOf[news]);
            case 1:
                return answer(wood.size[news]);
            case 2:
                return answer(wood.came >> news & 1);
            default:
                return none(BAD_NUMBER);
        }
    }

    public int copyHeights(int tray) {
        int why = trays.whyNot(tray, 0, wood.sitters);
        if (why != FINE) {
            return none(why);
        }
        for (int s = 0; s < wood.sitters; s++) {
            trays.put(tray, s, wood.heightNow(s));
        }
        return answer(wood.sitters);
    }

    // ---- what is done

    public int day(int days) {
        if (days < 1 || days > 999) {
            return none(BAD_NUMBER);
        }
        if (!wood.hasDays(days)) {
            return none(ONE_TOO_MANY);
        }
        wood.goDays(days);
        return answer(wood.downSet(wood.clear));
    }

    public int bring(int news) {
        if (!wood.hasNews(news)) {
            return none(NO_SUCH);
        }
        if (!wood.canCome(news)) {
            return none(CANNOT_BE);
        }
        wood.come(news);
        return answer(wood.clear[wood.newsOf[news]]);
    }

    public int crisis(int matter, int much) {
        if (!wood.hasMatter(matter)) {
            return none(NO_SUCH);
        }
        if (much < 1 || much > CLEAREST) {
            return none(BAD_NUMBER);
        }
        if (wood.clear[matter] == 0) {
            return none(CANNOT_BE);
        }
        wood.worsen(matter, much);
        return answer(wood.clear[matter]);
    }

    public int turn(int sitter, int matter) {
        if (!wood.hasSitter(sitter) || !wood.hasMatter(matter)) {
            return none(NO_SUCH);
        }
        if (wood.sitsFor[sitter] == matter) {
            return none(CANNOT_BE);
        }
        wood.sitsFor[sitter] = matter;
        return answer(wood.heightNow(sitter));
    }

    public int sit(int mile, int tall, int matter) {
        if (!wood.hasMatter(matter)) {
            return none(NO_SUCH);
        }
        if (mile < 0 || mile > LAST_MILE || tall < 1 || tall > TALLEST) {
            return none(BAD_NUMBER);
        }
        if (wood.sitters >= SITTER_ROOM) {
            return none(ONE_TOO_MANY);
        }
        wood.addSitter(0, mile, tall, matter, 1);
        return answer(wood.sitters - 1);
    }

    public int hear(int matter, int size) {
        if (!wood.hasMatter(matter)) {
            return none(NO_SUCH);
        }
        if (size < 1 || size > CLEAREST) {
            return none(BAD_NUMBER);
        }
        if (wood.newsTold >= NEWS_ROOM) {
            return none(ONE_TOO_MANY);
        }
        wood.addNews(matter, size);
        return answer(wood.newsTold - 1);
    }

    public int bind(int matter, int by) {
        if (!wood.hasMatter(matter) || !wood.hasMatter(by)) {
            return none(NO_SUCH);
        }
        if (matter == by) {
            return none(BAD_NUMBER);
        }
        if (wood.holds >= HOLD_ROOM) {
            return none(ONE_TOO_MANY);
        }
        if (wood.isHeldBy(matter, by)) {
            return none(CANNOT_BE);
        }
        wood.addHold(matter, by);
        return answer(wood.holds - 1);
    }

    public int loose(int hold) {
        if (!wood.hasHold(hold)) {
            return none(NO_SUCH);
        }
        wood.dropHold(hold);
        return answer(wood.holds);
    }

    public int hurry(int matter, int pace) {
        if (!wood.hasMatter(matter)) {
            return none(NO_SUCH);
        }
        if (pace < 0 || pace > FASTEST) {
            return none(BAD_NUMBER);
        }
        int old = wood.pace[matter];
        wood.pace[matter] = pace;
        return answer(old);
    }

    public boolean rule(int odds) {
        if (odds < 0 || odds > SIXTEENTHS) {
            return refuse(BAD_NUMBER);
        }
        wood.odds = odds;
        return agree();
    }

    // ---- DAYS ahead

    public int clearIn(int matter, int days) {
        if (!wood.hasMatter(matter)) {
            return none(NO_SUCH);
        }
        if (days < 0 || days > DAYS_AHEAD) {
            return none(BAD_NUMBER);
        }
        ahead.look(wood, days);
        return answer(ahead.row[matter]);
    }

    public int heightIn(int sitter, int days) {
        if (!wood.hasSitter(sitter)) {
            return none(NO_SUCH);
        }
        if (days < 0 || days > DAYS_AHEAD) {
            return none(BAD_NUMBER);
        }
        ahead.look(wood, days);
        return answer(wood.heightBy(sitter, ahead.row[wood.sitsFor[sitter]]));
    }

    public int downIn(int sitter) {
        if (!wood.hasSitter(sitter)) {
            return none(NO_SUCH);
        }
        return answerIfThere(ahead.daysTillDown(wood, sitter));
    }

    public int least(int sitters) {
        if (!wood.isSitterSet(sitters)) {
            return none(BAD_NUMBER);
        }
        int set = search.fewestNews(wood, sitters);
        return set == NONE ? none(NOT_THERE) : answer(Integer.bitCount(set));
    }

    public int leastSet(int sitters) {
        if (!wood.isSitterSet(sitters)) {
            return none(BAD_NUMBER);
        }
        return answerIfThere(search.fewestNews(wood, sitters));
    }

    // ---- rings, orders

    public int ring() {
        return answerIfThere(search.shortestRing(wood));
    }

    public int loosen() {
        return answer(Integer.bitCount(search.fewestHolds(wood)));
    }

    public int loosenSet() {
        return answer(search.fewestHolds(wood));
    }

    public int waiting() {
        return answerIfThere(search.leastWaiting(wood));
    }

    public int orderAt(int k) {
        if (search.leastWaiting(wood) == NONE || k < 0 || k >= wood.matters) {
            return none(NOT_THERE);
        }
        return answer(search.decidedAt(wood, k));
    }

    public int round(int mile) {
        if (mile < 0 || mile > LAST_MILE) {
            return none(BAD_NUMBER);
        }
        return answer(search.shortestRound(wood, mile));
    }

    // ---- what one sits out

    public int out(int sitter, int tray, int n) {
        int why = whyNotOut(sitter, tray, n);
        if (why != FINE) {
            return none(why);
        }
        return answer(ahead.fitting(wood, sitter, trays.rows[tray], n));
    }

    public int ask(int sitter, int tray, int n) {
        int why = whyNotOut(sitter, tray, n);
        if (why != FINE) {
            return none(why);
        }
        int set = ahead.fitting(wood, sitter, trays.rows[tray], n);
        if (Integer.bitCount(set) < 2) {
            return none(NOT_THERE);
        }
        return answer(ahead.partingDays(wood, sitter, set));
    }

    public int laws(int tray, int n) {
        int why = Trays.isTray(tray) ? trays.whyNoTwos(tray, n) : NO_TRAY;
        if (why != FINE) {
            return none(why);
        }
        return answer(Ahead.lawCount(trays.rows[tray], n));
    }

    public int lawOf(int tray, int n, int what) {
        int why = Trays.isTray(tray) ? trays.whyNoTwos(tray, n) : NO_TRAY;
        if (why != FINE) {
            return none(why);
        }
        if (what != 0 && what != 1) {
            return none(BAD_NUMBER);
        }
        int law = Ahead.firstLaw(trays.rows[tray], n);
        if (law == NONE) {
            return none(NOT_THERE);
        }
        return answer(what == 0 ? law / (FASTEST + 1) : law % (FASTEST + 1));
    }

    // ---- when to get off, games, odds

    public boolean off(int height, int days) {
        if (!isOffCase(height, days)) {
            return refuse(BAD_NUMBER);
        }
        tellFraction(offCost(height, days), powerOf16(days));
        return agree();
    }

    public int stay(int height, int days) {
        if (!isOffCase(height, days)) {
            return none(BAD_NUMBER);
        }
        return answer(offCost(height, days) < height * powerOf16(days) ? 1 : 0);
    }

    public int game(int sitter, int other, int turns) {
        if (!wood.hasSitter(sitter) || !wood.hasSitter(other)) {
            return none(NO_SUCH);
        }
        if (sitter == other || turns < 0 || turns > GAME_TURNS) {
            return none(BAD_NUMBER);
        }
        return answer(play.valueOf(wood, sitter, other, turns));
    }

    public int moveOf(int sitter, int other, int turns) {
        if (!wood.hasSitter(sitter) || !wood.hasSitter(other)) {
            return none(NO_SUCH);
        }
        if (sitter == other || turns < 1 || turns > GAME_TURNS) {
            return none(BAD_NUMBER);
        }
        return answerIfThere(play.firstNews(wood, sitter, other, turns));
    }

    public boolean lasts(int n) {
        if (n < 0 || n > LONGEST_CRISIS) {
            return refuse(BAD_NUMBER);
        }
        long goesOn = 1;
        for (int i = 0; i < n; i++) {
            goesOn *= SIXTEENTHS - wood.odds;
        }
        tellFraction(goesOn, powerOf16(n));
        return agree();
    }

    public boolean share(int sitter) {
        if (!wood.hasSitter(sitter)) {
            return refuse(NO_SUCH);
        }
        int all = wood.heightsTogether();
        if (all == 0) {
            return refuse(NOT_THERE);
        }
        tellFraction(wood.heightNow(sitter), all);
        return agree();
    }

    // ---- YEARS

    public int live(int seed) {
        if (seed < 0 || seed > LAST_SEED) {
            return none(BAD_NUMBER);
        }
        if (!wood.program.isThere) {
            return none(NOT_THERE);
        }
        run.runThrough(wood, seed);
        run.copyCounts(lastLived);
        hasLived = true;
        return answer(run.steps);
    }

    public int lived(int what) {
        if (what < 0 || what >= Run.COUNTS) {
            return none(BAD_NUMBER);
        }
        return hasLived ? answer(lastLived[what]) : none(NOT_THERE);
    }

    public boolean mean(int seed, int many) {
        if (seed < 0 || seed > LAST_SEED || many < 1 || many > MEAN_SEEDS || many - 1 > LAST_SEED - seed) {
            return refuse(BAD_NUMBER);
        }
        if (!wood.program.isThere) {
            return refuse(NOT_THERE);
        }
        long heights = 0;
        for (int i = 0; i < many; i++) {
            trial.takeFrom(wood);
            run.runThrough(trial, seed + i);
            heights += trial.heightsTogether();
        }
        tellFraction(heights, many);
        return agree();
    }

    // ---- MARKS

    public int mark() {
        if (markCount >= MARK_ROOM) {
            return none(ONE_TOO_MANY);
        }
        marks[markCount].takeFrom(wood);
        markCount++;
        return answer(markCount);
    }

    public int back() {
        if (markCount <= 0) {
            return none(NOT_THERE);
        }
        markCount--;
        wood.takeFrom(marks[markCount]);
        return answer(markCount);
    }

    // ---- what the calls share

    private int answer(int value) {
        status = FINE;
        return value;
    }

    private int answerIfThere(int value) {
        return value == NONE ? none(NOT_THERE) : answer(value);
    }

    private int none(int why) {
        status = why;
        return NONE;
    }

    private boolean agree() {
        status = FINE;
        return true;
    }

    private boolean refuse(int why) {
        status = why;
        return false;
    }

    private void feedInt(int four) {
        for (int shift = 24; shift >= 0; shift -= 8) {
            if (tapeLength < TAPE_ROOM) {
                tape[tapeLength] = (byte) (four >> shift);
                tapeLength++;
            }
        }
    }

    private int whyNotOut(int sitter, int tray, int n) {
        if (!Trays.isTray(tray)) {
            return NO_TRAY;
        }
        return wood.hasSitter(sitter) ? trays.whyNoTwos(tray, n) : NO_SUCH;
    }

    private void tellFraction(long part, long whole) {
        long divisor = commonDivisor(part, whole);
        if (divisor > 0) {
            top = part / divisor;
            bottom = whole / divisor;
        }
    }

    private static long commonDivisor(long a, long b) {
        long larger = a;
        long smaller = b;
        // Euclid on longs ends within a hundred rounds; the counter only makes the end plain.
        for (int i = 0; i < 200 && smaller != 0; i++) {
            long rest = larger % smaller;
            larger = smaller;
            smaller = rest;
        }
        return larger;
    }

    private static boolean isOffCase(int height, int days) {
        return height >= 0 && height <= TALLEST && days >= 0 && days <= OFF_DAYS;
    }

    private static long powerOf16(int n) {
        return 1L << 4 * n;
    }

    /** What OFF costs, in parts of 16 to the power of the days, so that it stays whole. */
    private long offCost(int height, int days) {
        long cost = height;
        for (int left = 1; left <= days; left++) {
            long waits = powerOf16(left) + (SIXTEENTHS - wood.odds) * cost;
            cost = Math.min(waits, height * powerOf16(left));
        }
        return cost;
    }

    /** The four rows of numbers. */
    private static final class Trays {
        final long[][] rows;
        final int[] sorts;
        private final int[] lengths;

        Trays() {
            rows = new long[TRAY_COUNT][TRAY_ROOM];
            sorts = new int[TRAY_COUNT];
            lengths = new int[TRAY_COUNT];
            Arrays.fill(lengths, NONE);
        }

        static boolean isTray(int tray) {
            return tray >= 0 && tray < TRAY_COUNT;
        }

        boolean isMissing(int tray) {
            return lengths[tray] == NONE;
        }

        boolean has(int tray, int place, int count) {
            return place >= 0 && count <= lengths[tray] && place <= lengths[tray] - count;
        }

        void lay(int tray, int sort, int length) {
            Arrays.fill(rows[tray], 0L);
            sorts[tray] = sort;
            lengths[tray] = length;
        }

        /** The STATUS of a call for so many numbers from a place on. */
        int whyNot(int tray, int place, int count) {
            if (!isTray(tray)) {
                return NO_TRAY;
            }
            if (isMissing(tray)) {
                return MISSING;
            }
            return has(tray, place, count) ? FINE : NO_PLACE;
        }

        void put(int tray, int place, long v) {
            switch (sorts[tray]) {
                case 0:
                    rows[tray][place] = (byte) v;
                    break;
                case 1:
                    rows[tray][place] = (short) v;
                    break;
                case 2:
                    rows[tray][place] = (int) v;
                    break;
                default:
                    rows[tray][place] = v;
                    break;
            }
        }

        /** The STATUS of a call for n twos of DAYS and HEIGHTS of a tray that may be missing. */
        int whyNoTwos(int tray, int n) {
            if (isMissing(tray)) {
                return MISSING;
            }
            if (n > lengths[tray] / 2) {
                return NO_PLACE;
            }
            if (n < 0 || n > TWOS_ROOM) {
                return BAD_NUMBER;
            }
            for (int i = 0; i < n; i++) {
                long days = rows[tray][2 * i];
                long height = rows[tray][2 * i + 1];
                if (days < 0 || days > TWOS_DAYS || height < 0 || height > TALLEST) {
                    return BAD_NUMBER;
                }
            }
            return FINE;
        }
    }

    /** The wood as it is, with its years. Sets are numbers whose bits stand for the things by their numbers. */
    private static final class Wood {
        int odds;
        int today;
        int matters;
        int holds;
        int sitters;
        int newsTold;
        int came;
        final long[] matterName;
        final int[] pace;
        final int[] clear;
        final int[] held;
        final int[] holder;
        final long[] sitterName;
        final int[] mile;
        final int[] tall;
        final int[] sitsFor;
        final int[] weight;
        final int[] newsOf;
        final int[] size;
        final Years program;

        Wood() {
            odds = USUAL_ODDS;
            matterName = new long[MATTER_ROOM];
            pace = new int[MATTER_ROOM];
            clear = new int[MATTER_ROOM];
            held = new int[HOLD_ROOM];
            holder = new int[HOLD_ROOM];
            sitterName = new long[SITTER_ROOM];
            mile = new int[SITTER_ROOM];
            tall = new int[SITTER_ROOM];
            sitsFor = new int[SITTER_ROOM];
            weight = new int[SITTER_ROOM];
            newsOf = new int[NEWS_ROOM];
            size = new int[NEWS_ROOM];
            program = new Years();
        }

        void makeEmpty() {
            odds = USUAL_ODDS;
            today = 0;
            matters = 0;
            holds = 0;
            sitters = 0;
            newsTold = 0;
            came = 0;
            program.makeEmpty();
        }

        void takeFrom(Wood other) {
            odds = other.odds;
            today = other.today;
            matters = other.matters;
            holds = other.holds;
            sitters = other.sitters;
            newsTold = other.newsTold;
            came = other.came;
            System.arraycopy(other.matterName, 0, matterName, 0, MATTER_ROOM);
            System.arraycopy(other.pace, 0, pace, 0, MATTER_ROOM);
            System.arraycopy(other.clear, 0, clear, 0, MATTER_ROOM);
            System.arraycopy(other.held, 0, held, 0, HOLD_ROOM);
            System.arraycopy(other.holder, 0, holder, 0, HOLD_ROOM);
            System.arraycopy(other.sitterName, 0, sitterName, 0, SITTER_ROOM);
            System.arraycopy(other.mile, 0, mile, 0, SITTER_ROOM);
            System.arraycopy(other.tall, 0, tall, 0, SITTER_ROOM);
            System.arraycopy(other.sitsFor, 0, sitsFor, 0, SITTER_ROOM);
            System.arraycopy(other.weight, 0, weight, 0, SITTER_ROOM);
            System.arraycopy(other.newsOf, 0, newsOf, 0, NEWS_ROOM);
            System.arraycopy(other.size, 0, size, 0, NEWS_ROOM);
            program.takeFrom(other.program);
        }

        boolean hasMatter(int matter) {
            return matter >= 0 && matter < matters;
        }

        boolean hasHold(int hold) {
            return hold >= 0 && hold < holds;
        }

        boolean hasSitter(int sitter) {
            return sitter >= 0 && sitter < sitters;
        }

        boolean hasNews(int news) {
            return news >= 0 && news < newsTold;
        }

        boolean isSitterSet(int set) {
            return set >= 0 && set < 1 << sitters;
        }

        int matterNamed(long name) {
            for (int m = 0; m < matters; m++) {
                if (matterName[m] == name) {
                    return m;
                }
            }
            return NONE;
        }

        int sitterNamed(long name) {
            for (int s = 0; s < sitters; s++) {
                if (sitterName[s] == name) {
                    return s;
                }
            }
            return NONE;
        }

        void addMatter(long name, int itsPace, int itsClear) {
            if (matters < MATTER_ROOM) {
                matterName[matters] = name;
                pace[matters] = itsPace;
                clear[matters] = itsClear;
                matters++;
            }
        }

        void addHold(int matter, int by) {
            if (holds < HOLD_ROOM) {
                held[holds] = matter;
                holder[holds] = by;
                holds++;
            }
        }

        void dropHold(int hold) {
            for (int h = hold; h < holds - 1; h++) {
                held[h] = held[h + 1];
                holder[h] = holder[h + 1];
            }
            holds--;
        }

        /** A name of 0 is no name: he who sits down later is in no text. */
        void addSitter(long name, int atMile, int howTall, int matter, int itsWeight) {
            if (sitters < SITTER_ROOM) {
                sitterName[sitters] = name;
                mile[sitters] = atMile;
                tall[sitters] = howTall;
                sitsFor[sitters] = matter;
                weight[sitters] = itsWeight;
                sitters++;
            }
        }

        void addNews(int matter, int itsSize) {
            if (newsTold < NEWS_ROOM) {
                newsOf[newsTold] = matter;
                size[newsTold] = itsSize;
                newsTold++;
            }
        }

        boolean isHeldBy(int matter, int by) {
            for (int h = 0; h < holds; h++) {
                if (held[h] == matter && holder[h] == by) {
                    return true;
                }
            }
            return false;
        }

        int holdersOf(int matter) {
            int set = 0;
            for (int h = 0; h < holds; h++) {
                if (held[h] == matter) {
                    set |= 1 << holder[h];
                }
            }
            return set;
        }

        int sittersFor(int matter) {
            int set = 0;
            for (int s = 0; s < sitters; s++) {
                if (sitsFor[s] == matter) {
                    set |= 1 << s;
                }
            }
            return set;
        }

        /** LOAD, or NONE where the matter never is settled by its pace. */
        int loadOf(int matter) {
            int lacks = CLEAREST - clear[matter];
            if (lacks == 0) {
                return 0;
            }
            int step = pace[matter];
            return step > 0 ? (lacks + step - 1) / step : NONE;
        }

        int settledSet(int[] clearness) {
            int set = 0;
            for (int m = 0; m < matters; m++) {
                if (clearness[m] >= CLEAREST) {
                    set |= 1 << m;
                }
            }
            return set;
        }

        int stuckSet(int[] clearness) {
            int settled = 0;
            int stuck = 0;
            for (int m = 0; m < matters; m++) {
                if (clearness[m] >= CLEAREST) {
                    settled |= 1 << m;
                }
            }
            for (int h = 0; h < holds; h++) {
                if (clearness[holder[h]] < CLEAREST) {
                    stuck |= 1 << held[h];
                }
            }
            return stuck & ~settled;
        }

        int downSet(int[] clearness) {
            int set = 0;
            for (int s = 0; s < sitters; s++) {
                if (heightBy(s, clearness[sitsFor[s]]) == 0) {
                    set |= 1 << s;
                }
            }
            return set;
        }

        int heightBy(int sitter, int clearness) {
            return tall[sitter] * (CLEAREST - clearness) / CLEAREST;
        }

        int heightNow(int sitter) {
            return heightBy(sitter, clear[sitsFor[sitter]]);
        }

        int heightsTogether() {
            int sum = 0;
            for (int s = 0; s < sitters; s++) {
                sum += heightNow(s);
            }
            return sum;
        }

        boolean hasDays(int days) {
            return days <= LAST_DAY - today;
        }

        void goDays(int days) {
            boolean moves = true;
            // Once a day moved nothing, none behind it will.
            for (int i = 0; i < days && moves; i++) {
                moves = passDay(clear);
            }
            today += days;
        }

        /** One day goes by for a row of clearness: whether anything moved. */
        boolean passDay(int[] clearness) {
            int stuck = stuckSet(clearness);
            boolean moved = false;
            for (int m = 0; m < matters; m++) {
                if (pace[m] > 0 && clearness[m] < CLEAREST && (stuck >> m & 1) == 0) {
                    clearness[m] = Math.min(CLEAREST, clearness[m] + pace[m]);
                    moved = true;
                }
            }
            return moved;
        }

        boolean canCome(int news) {
            return hasNews(news) && (came >> news & 1) == 0 && clear[newsOf[news]] < CLEAREST;
        }

        void come(int news) {
            int matter = newsOf[news];
            clear[matter] = Math.min(CLEAREST, clear[matter] + size[news]);
            came |= 1 << news;
        }

        void worsen(int matter, int much) {
            clear[matter] = Math.max(0, clear[matter] - much);
        }
    }

    /** The steps of the years, in rows; the end of a when or loop stands in them too, for its way back. */
    private static final class Years {
        static final int MOST_STEPS = 30;
        static final int ROOM = 2 * MOST_STEPS;

        boolean isThere;
        int steps;
        int length;
        final int[] verb;
        final int[] test;
        final int[] who;
        final int[] compare;
        final int[] number;
        final int[] partner;

        Years() {
            verb = new int[ROOM];
            test = new int[ROOM];
            who = new int[ROOM];
            compare = new int[ROOM];
            number = new int[ROOM];
            partner = new int[ROOM];
        }

        void makeEmpty() {
            isThere = false;
            steps = 0;
            length = 0;
        }

        void takeFrom(Years other) {
            isThere = other.isThere;
            steps = other.steps;
            length = other.length;
            System.arraycopy(other.verb, 0, verb, 0, ROOM);
            System.arraycopy(other.test, 0, test, 0, ROOM);
            System.arraycopy(other.who, 0, who, 0, ROOM);
            System.arraycopy(other.compare, 0, compare, 0, ROOM);
            System.arraycopy(other.number, 0, number, 0, ROOM);
            System.arraycopy(other.partner, 0, partner, 0, ROOM);
        }

        private void add(int itsVerb, int itsWho, int itsNumber) {
            if (length < ROOM) {
                verb[length] = itsVerb;
                test[length] = Words.NO_KEYWORD;
                who[length] = itsWho;
                compare[length] = NONE;
                number[length] = itsNumber;
                partner[length] = length;
                length++;
            }
        }

        void addStep(int itsVerb, int itsWho, int itsNumber) {
            add(itsVerb, itsWho, itsNumber);
            steps++;
        }

        void addWhen(int itsTest, int itsWho, int itsCompare, int itsNumber) {
            int here = length;
            addStep(Words.WHEN, itsWho, itsNumber);
            if (here < ROOM) {
                test[here] = itsTest;
                compare[here] = itsCompare;
            }
        }

        void addEnd(int beginning) {
            if (length < ROOM && beginning >= 0 && beginning < length) {
                add(Words.END, NONE, 0);
                partner[length - 1] = beginning;
                partner[beginning] = length - 1;
            }
        }
    }

    /** The words that are no names, numbered as they stand in LIST. */
    private static final class Words {
        static final int NO_KEYWORD = -1;
        static final int ODDS = 0;
        static final int MATTER = 1;
        static final int PACE = 2;
        static final int CLEAR = 3;
        static final int HOLD = 4;
        static final int BY = 5;
        static final int SITTER = 6;
        static final int MILE = 7;
        static final int TALL = 8;
        static final int FOR = 9;
        static final int WEIGHT = 10;
        static final int NEWS = 11;
        static final int SIZE = 12;
        static final int DAY = 13;
        static final int BRING = 14;
        static final int CRISIS = 15;
        static final int TURN = 16;
        static final int ANY = 17;
        static final int WHEN = 18;
        static final int DOWN = 19;
        static final int SETTLED = 20;
        static final int HIGH = 21;
        static final int LOOP = 22;
        static final int END = 23;
        static final int STOP = 24;
        static final int LONGEST = 8;

        private static final String LIST =
            "odds matter pace clear hold by sitter mile tall for weight news size day bring crisis turn any when down settled high loop end stop ";

        /** A word's code with one more letter; words of up to eight letters have codes of their own. */
        static long codeWith(long code, int letter) {
            return code * 32 + (letter - 'a' + 1);
        }

        static int keywordOf(long code) {
            int keyword = 0;
            long word = 0;
            for (int i = 0; i < LIST.length(); i++) {
                char letter = LIST.charAt(i);
                if (letter != ' ') {
                    word = codeWith(word, letter);
                } else if (word == code) {
                    return keyword;
                } else {
                    keyword++;
                    word = 0;
                }
            }
            return NO_KEYWORD;
        }
    }

    /**
     * The tokens of a text, taken one behind the other. The first fault stays, and behind it nothing is gone past:
     * so the readers may go on as if all was well, and it is looked at once in the end.
     */
    private static final class Tokens {
        private static final int TEXT_END = 0;
        private static final int KEYWORD = 1;
        private static final int NAME = 2;
        private static final int LONG_WORD = 3;
        private static final int NUMBER = 4;
        private static final int SIGN = 5;
        private static final int NO_TOKEN = 6;
        private static final int MOST_DIGITS = 4;
        private static final int ROOM = TAPE_ROOM + 1;

        private final int[] kinds;
        private final int[] starts;
        private final long[] codes;
        private int count;
        private int at;
        int fault;
        int faultPlace;

        Tokens() {
            kinds = new int[ROOM];
            starts = new int[ROOM];
            codes = new long[ROOM];
            fault = NONE;
            faultPlace = NONE;
        }

        void open(byte[] text, int bytes) {
            int end = Math.max(0, Math.min(bytes, Math.min(text.length, TAPE_ROOM)));
            int place = 0;
            count = 0;
            while (place < end) {
                int c = text[place];
                int width = 1;
                if (isLetter(c)) {
                    width = addWord(text, place, end);
                } else if (isDigit(c)) {
                    width = addNumber(text, place, end);
                } else if (c != ' ' && c != '\n') {
                    add(isSign(c) ? SIGN : NO_TOKEN, place, c);
                }
                place += Math.max(1, width);
            }
            add(TEXT_END, end, 0);
            at = 0;
            fault = 0;
            faultPlace = NONE;
        }

        private void add(int kind, int start, long code) {
            if (count < ROOM) {
                kinds[count] = kind;
                starts[count] = start;
                codes[count] = code;
                count++;
            }
        }

        /** Adds the word that begins at a place: how long it is. */
        private int addWord(byte[] text, int start, int end) {
            long code = 0;
            int place = start;
            while (place < end && isLetter(text[place])) {
                code = Words.codeWith(code, text[place]);
                place++;
            }
            int keyword = Words.keywordOf(code);
            if (place - start > Words.LONGEST) {
                add(LONG_WORD, start, 0);
            } else if (keyword != Words.NO_KEYWORD) {
                add(KEYWORD, start, keyword);
            } else {
                add(NAME, start, code);
            }
            return place - start;
        }

        private int addNumber(byte[] text, int start, int end) {
            int value = 0;
            int place = start;
            while (place < end && isDigit(text[place])) {
                value = value * 10 + (text[place] - '0');
                place++;
            }
            add(place - start > MOST_DIGITS ? NO_TOKEN : NUMBER, start, value);
            return place - start;
        }

        private static boolean isLetter(int c) {
            return c >= 'a' && c <= 'z';
        }

        private static boolean isDigit(int c) {
            return c >= '0' && c <= '9';
        }

        private static boolean isSign(int c) {
            return c == ';' || c == '<' || c == '>' || c == '=';
        }

        boolean areGood() {
            return fault == 0;
        }

        boolean goOn() {
            return fault == 0 && kinds[at] != TEXT_END;
        }

        /** Tells a fault of the token that comes next; where no token begins, that is its fault whatever it should be. */
        void fail(int what) {
            if (fault == 0) {
                fault = kinds[at] == NO_TOKEN ? FAULT_NO_TOKEN : what;
                faultPlace = starts[at];
            }
        }

        void step() {
            if (fault == 0 && at < count - 1) {
                at++;
            }
        }

        int keyword() {
            return kinds[at] == KEYWORD ? (int) codes[at] : Words.NO_KEYWORD;
        }

        void takeKeyword(int wanted) {
            if (keyword() != wanted) {
                fail(FAULT_PLACE);
            }
            step();
        }

        void takeEndOfPart() {
            if (kinds[at] != SIGN || codes[at] != ';') {
                fail(FAULT_PLACE);
            }
            step();
        }

        int takeCompare() {
            int sign = (int) codes[at];
            if (kinds[at] != SIGN || sign == ';') {
                fail(FAULT_PLACE);
            }
            step();
            return sign;
        }

        int takeNumber(int least, int most) {
            int number = (int) codes[at];
            if (kinds[at] != NUMBER) {
                fail(FAULT_PLACE);
            } else if (number < least || number > most) {
                fail(FAULT_NUMBER);
            }
            step();
            return number;
        }

        long takeNewName(Wood wood) {
            long name = codes[at];
            if (kinds[at] != NAME) {
                fail(FAULT_PLACE);
            } else if (wood.matterNamed(name) != NONE || wood.sitterNamed(name) != NONE) {
                fail(FAULT_NAME);
            }
            step();
            return name;
        }

        /** The number of the matter whose name comes next; it is not gone past. */
        int matterHere(Wood wood) {
            if (kinds[at] != NAME) {
                fail(FAULT_PLACE);
                return NONE;
            }
            int matter = wood.matterNamed(codes[at]);
            if (matter == NONE) {
                fail(FAULT_NAME);
            }
            return matter;
        }

        int takeMatter(Wood wood) {
            int matter = matterHere(wood);
            step();
            return matter;
        }

        int takeSitter(Wood wood) {
            if (kinds[at] != NAME) {
                fail(FAULT_PLACE);
                return NONE;
            }
            int sitter = wood.sitterNamed(codes[at]);
            if (sitter == NONE) {
                fail(FAULT_NAME);
            }
            step();
            return sitter;
        }
    }

    /** Reads the parts of a wood. */
    private static final class WoodReader {
        private boolean oddsTold;

        void readInto(Wood wood, Tokens tokens) {
            wood.makeEmpty();
            oddsTold = false;
            for (int i = 0; i < TAPE_ROOM && tokens.goOn(); i++) {
                readPart(wood, tokens);
                tokens.takeEndOfPart();
            }
        }

        private void readPart(Wood wood, Tokens tokens) {
            switch (tokens.keyword()) {
                case Words.ODDS:
                    readOdds(wood, tokens);
                    break;
                case Words.MATTER:
                    readMatter(wood, tokens);
                    break;
                case Words.HOLD:
                    readHold(wood, tokens);
                    break;
                case Words.SITTER:
                    readSitter(wood, tokens);
                    break;
                case Words.NEWS:
                    readNews(wood, tokens);
                    break;
                default:
                    tokens.fail(FAULT_PLACE);
                    break;
            }
        }

        private static void begin(Tokens tokens, boolean isFull) {
            if (isFull) {
                tokens.fail(FAULT_MANY);
            }
            tokens.step();
        }

        private void readOdds(Wood wood, Tokens tokens) {
            if (oddsTold) {
                tokens.fail(FAULT_AGAIN);
            }
            tokens.step();
            wood.odds = tokens.takeNumber(0, SIXTEENTHS);
            oddsTold = true;
        }

        private static void readMatter(Wood wood, Tokens tokens) {
            begin(tokens, wood.matters >= MATTER_ROOM);
            long name = tokens.takeNewName(wood);
            tokens.takeKeyword(Words.PACE);
            int pace = tokens.takeNumber(0, FASTEST);
            int clear = 0;
            if (tokens.keyword() == Words.CLEAR) {
                tokens.step();
                clear = tokens.takeNumber(0, CLEAREST);
            }
            if (tokens.areGood()) {
                wood.addMatter(name, pace, clear);
            }
        }

        private static void readHold(Wood wood, Tokens tokens) {
            begin(tokens, wood.holds >= HOLD_ROOM);
            int matter = tokens.takeMatter(wood);
            tokens.takeKeyword(Words.BY);
            int by = tokens.matterHere(wood);
            if (matter == by || wood.isHeldBy(matter, by)) {
                tokens.fail(FAULT_AGAIN);
            }
            tokens.step();
            if (tokens.areGood()) {
                wood.addHold(matter, by);
            }
        }

        private static void readSitter(Wood wood, Tokens tokens) {
            begin(tokens, wood.sitters >= SITTER_ROOM);
            long name = tokens.takeNewName(wood);
            tokens.takeKeyword(Words.MILE);
            int mile = tokens.takeNumber(0, LAST_MILE);
            tokens.takeKeyword(Words.TALL);
            int tall = tokens.takeNumber(1, TALLEST);
            tokens.takeKeyword(Words.FOR);
            int matter = tokens.takeMatter(wood);
            int weight = 1;
            if (tokens.keyword() == Words.WEIGHT) {
                tokens.step();
                weight = tokens.takeNumber(1, HEAVIEST);
            }
            if (tokens.areGood()) {
                wood.addSitter(name, mile, tall, matter, weight);
            }
        }

        private static void readNews(Wood wood, Tokens tokens) {
            begin(tokens, wood.newsTold >= NEWS_ROOM);
            int matter = tokens.takeMatter(wood);
            tokens.takeKeyword(Words.SIZE);
            int size = tokens.takeNumber(1, CLEAREST);
            if (tokens.areGood()) {
                wood.addNews(matter, size);
            }
        }
    }

    /** Reads the steps of the years; names are those of the wood that is there. */
    private static final class YearsReader {
        private static final int MOST_DEPTH = 3;
        private static final int MOST_DAYS = 40;
        private static final int MOST_TIMES = 99;

        private final int[] open;
        private int depth;

        YearsReader() {
            open = new int[MOST_DEPTH];
        }

        void readInto(Years years, Tokens tokens, Wood wood) {
            years.makeEmpty();
            years.isThere = true;
            depth = 0;
            for (int i = 0; i < YEARS_BYTES && tokens.goOn(); i++) {
                int verb = tokens.keyword();
                begin(verb, years, tokens);
                if (tokens.areGood()) {
                    readRest(verb, years, tokens, wood);
                }
                tokens.takeEndOfPart();
            }
            if (depth > 0) {
                tokens.fail(FAULT_PLACE);
            }
        }

        /** Goes past the word of a step, or of an end, if it may stand here. */
        private void begin(int verb, Years years, Tokens tokens) {
            boolean mayStand = verb == Words.END ? depth > 0 : isStep(verb);
            if (!mayStand) {
                tokens.fail(FAULT_PLACE);
            } else if (isStep(verb) && years.steps >= Years.MOST_STEPS) {
                tokens.fail(FAULT_MANY);
            } else if (isOpening(verb) && depth >= MOST_DEPTH) {
                tokens.fail(FAULT_DEEP);
            }
            tokens.step();
        }

        private static boolean isStep(int keyword) {
            return keyword >= Words.DAY && keyword <= Words.WHEN || keyword == Words.LOOP || keyword == Words.STOP;
        }

        private static boolean isOpening(int keyword) {
            return keyword == Words.WHEN || keyword == Words.LOOP;
        }

        private void readRest(int verb, Years years, Tokens tokens, Wood wood) {
            switch (verb) {
                case Words.DAY:
                    years.addStep(verb, NONE, tokens.takeNumber(1, MOST_DAYS));
                    break;
                case Words.BRING:
                    years.addStep(verb, NONE, tokens.takeNumber(0, NEWS_ROOM - 1));
                    break;
                case Words.CRISIS:
                    years.addStep(verb, tokens.takeMatter(wood), tokens.takeNumber(1, CLEAREST));
                    break;
                case Words.TURN:
                    years.addStep(verb, tokens.takeSitter(wood), tokens.takeMatter(wood));
                    break;
                case Words.WHEN:
                    goIn(years);
                    readTest(years, tokens, wood);
                    break;
                case Words.LOOP:
                    goIn(years);
                    years.addStep(verb, NONE, tokens.takeNumber(1, MOST_TIMES));
                    break;
                case Words.END:
                    goOut(years);
                    break;
                default:
                    years.addStep(verb, NONE, 0);
                    break;
            }
        }

        private void goIn(Years years) {
            if (depth < MOST_DEPTH) {
                open[depth] = years.length;
                depth++;
            }
        }

        private void goOut(Years years) {
            if (depth > 0) {
                depth--;
                years.addEnd(open[depth]);
            }
        }

        private static void readTest(Years years, Tokens tokens, Wood wood) {
            int test = tokens.keyword();
            if (test != Words.DOWN && test != Words.SETTLED && test != Words.HIGH) {
                tokens.fail(FAULT_PLACE);
            }
            tokens.step();
            int who = test == Words.SETTLED ? tokens.takeMatter(wood) : tokens.takeSitter(wood);
            int compare = NONE;
            int number = 0;
            if (test == Words.HIGH) {
                compare = tokens.takeCompare();
                number = tokens.takeNumber(0, TALLEST);
            }
            years.addWhen(test, who, compare, number);
        }
    }

    /** Goes through the years of a wood, and counts. */
    private static final class Run {
        static final int COUNTS = 5;
        private static final int MOST_DONE = 300;
        private static final int MOST_CRISIS = 50;
        private static final int FAR_ABOVE_ALL = 1_000_000;

        private int draws;
        private int at;
        private final int[] timesLeft;
        int steps;
        private int missed;
        private int days;
        private int brought;
        private int crises;
        private boolean cut;

        Run() {
            timesLeft = new int[Years.ROOM];
        }

        void runThrough(Wood wood, int seed) {
            Years years = wood.program;
            draws = seed;
            at = 0;
            steps = 0;
            missed = 0;
            days = 0;
            brought = 0;
            crises = 0;
            cut = false;
            for (int i = 0; i < FAR_ABOVE_ALL && !cut && at >= 0 && at < years.length; i++) {
                if (years.verb[at] == Words.END) {
                    passEnd(years);
                } else if (steps >= MOST_DONE) {
                    cut = true;
                } else {
                    steps++;
                    doStep(wood, years);
                }
            }
        }

        void copyCounts(int[] counts) {
            if (counts.length >= COUNTS) {
                counts[0] = missed;
                counts[1] = days;
                counts[2] = brought;
                counts[3] = crises;
                counts[4] = cut ? 1 : 0;
            }
        }

        private void passEnd(Years years) {
            int beginning = years.partner[at];
            at++;
            if (beginning >= 0 && years.verb[beginning] == Words.LOOP) {
                timesLeft[beginning]--;
                if (timesLeft[beginning] > 0) {
                    at = beginning + 1;
                }
            }
        }

        private void doStep(Wood wood, Years years) {
            int here = at;
            int who = years.who[here];
            int number = years.number[here];
            at = here + 1;
            switch (years.verb[here]) {
                case Words.DAY:
                    doDays(wood, number);
                    break;
                case Words.BRING:
                    doBring(wood, number);
                    break;
                case Words.CRISIS:
                    doCrisis(wood, who, number);
                    break;
                case Words.TURN:
                    doTurn(wood, who, number);
                    break;
                case Words.ANY:
                    doAny(wood);
                    break;
                case Words.WHEN:
                    at = isSo(wood, years, here) ? here + 1 : years.partner[here] + 1;
                    break;
                case Words.LOOP:
                    timesLeft[here] = number;
                    break;
                default:
                    at = years.length;
                    break;
            }
        }

        private void doDays(Wood wood, int count) {
            if (wood.hasDays(count)) {
                wood.goDays(count);
                days += count;
            } else {
                missed++;
            }
        }

        private void doBring(Wood wood, int news) {
            if (wood.canCome(news)) {
                wood.come(news);
                brought++;
            } else {
                missed++;
            }
        }

        private void doCrisis(Wood wood, int matter, int much) {
            if (wood.hasMatter(matter) && wood.clear[matter] > 0) {
                wood.worsen(matter, much);
                crises++;
            } else {
                missed++;
            }
        }

        private void doTurn(Wood wood, int sitter, int matter) {
            if (wood.hasSitter(sitter) && wood.hasMatter(matter) && wood.sitsFor[sitter] != matter) {
                wood.sitsFor[sitter] = matter;
            } else {
                missed++;
            }
        }

        private void doAny(Wood wood) {
            if (wood.matters == 0) {
                missed++;
                return;
            }
            int matter = draw(wood.matters);
            if (draw(SIXTEENTHS) < wood.odds) {
                doCrisis(wood, matter, draw(MOST_CRISIS) + 1);
            } else {
                doDays(wood, 1);
            }
        }

        private int draw(int by) {
            draws = (draws * 2971 + 10973) % 65536;
            return by > 0 ? draws / 8 % by : 0;
        }

        private static boolean isSo(Wood wood, Years years, int here) {
            int who = years.who[here];
            if (years.test[here] == Words.SETTLED) {
                return wood.hasMatter(who) && wood.clear[who] >= CLEAREST;
            }
            int height = wood.hasSitter(who) ? wood.heightNow(who) : 0;
            switch (years.compare[here]) {
                case '<':
                    return height < years.number[here];
                case '>':
                    return height > years.number[here];
                case '=':
                    return height == years.number[here];
                default:
                    return height == 0;
            }
        }
    }

    /** What will be as only days go by, and what one may sit out by his heights. */
    private static final class Ahead {
        final int[] row;

        Ahead() {
            row = new int[MATTER_ROOM];
        }

        /** The row becomes how clear all matters are in so many days. */
        void look(Wood wood, int days) {
            System.arraycopy(wood.clear, 0, row, 0, MATTER_ROOM);
            boolean moves = true;
            for (int i = 0; i < days && moves; i++) {
                moves = wood.passDay(row);
            }
        }

        int daysTillDown(Wood wood, int sitter) {
            int matter = wood.sitsFor[sitter];
            look(wood, 0);
            for (int days = 0; days <= DAYS_AHEAD; days++) {
                if (wood.heightBy(sitter, row[matter]) == 0) {
                    return days;
                }
                wood.passDay(row);
            }
            return NONE;
        }

        int fitting(Wood wood, int sitter, long[] twos, int n) {
            int set = (1 << wood.matters) - 1;
            for (int i = 0; i < n; i++) {
                look(wood, (int) twos[2 * i]);
                for (int m = 0; m < wood.matters; m++) {
                    if (wood.heightBy(sitter, row[m]) != twos[2 * i + 1]) {
                        set &= ~(1 << m);
                    }
                }
            }
            return set;
        }

        int partingDays(Wood wood, int sitter, int set) {
            int best = 0;
            int fewest = MATTER_ROOM + 1;
            look(wood, 0);
            for (int days = 0; days <= TWOS_DAYS; days++) {
                int crowd = largestCrowd(wood, sitter, set);
                if (crowd < fewest) {
                    fewest = crowd;
                    best = days;
                }
                wood.passDay(row);
            }
            return best;
        }

        /** The most matters of a set by which he has one height, as the row is. */
        private int largestCrowd(Wood wood, int sitter, int set) {
            int largest = 0;
            for (int a = 0; a < wood.matters; a++) {
                int crowd = 0;
                for (int b = 0; b < wood.matters; b++) {
                    boolean alike = wood.heightBy(sitter, row[a]) == wood.heightBy(sitter, row[b]);
                    if (alike && (set >> a & 1) == 1 && (set >> b & 1) == 1) {
                        crowd++;
                    }
                }
                largest = Math.max(largest, crowd);
            }
            return largest;
        }

        static int lawCount(long[] twos, int n) {
            int count = 0;
            for (int tall = 1; tall <= TALLEST; tall++) {
                for (int pace = 0; pace <= FASTEST; pace++) {
                    if (isLaw(tall, pace, twos, n)) {
                        count++;
                    }
                }
            }
            return count;
        }

        /** The first law, as TALL times the number of paces, and its PACE. */
        static int firstLaw(long[] twos, int n) {
            for (int tall = 1; tall <= TALLEST; tall++) {
                for (int pace = 0; pace <= FASTEST; pace++) {
                    if (isLaw(tall, pace, twos, n)) {
                        return tall * (FASTEST + 1) + pace;
                    }
                }
            }
            return NONE;
        }

        private static boolean isLaw(int tall, int pace, long[] twos, int n) {
            for (int i = 0; i < n; i++) {
                int clear = Math.min(CLEAREST, pace * (int) twos[2 * i]);
                if (tall * (CLEAREST - clear) / CLEAREST != twos[2 * i + 1]) {
                    return false;
                }
            }
            return true;
        }
    }

    /** The best of all sets, orders and ways. */
    private static final class Search {
        private static final int FAR = 1_000_000;

        private final int[] row;
        private final int[] holders;
        private final int[] loads;
        private final int[] weights;
        private final int[] waits;
        private final int[] ways;

        Search() {
            row = new int[MATTER_ROOM];
            holders = new int[MATTER_ROOM];
            loads = new int[MATTER_ROOM];
            weights = new int[MATTER_ROOM];
            waits = new int[1 << MATTER_ROOM];
            ways = new int[SITTER_ROOM << SITTER_ROOM];
        }

        private static boolean isIn(int set, int one) {
            return (set >> one & 1) == 1;
        }

        /** The set of the fewest news by which all of the sitters are down, or NONE. */
        int fewestNews(Wood wood, int sitters) {
            int best = NONE;
            for (int set = 0; set < 1 << wood.newsTold; set++) {
                boolean fewer = best == NONE || Integer.bitCount(set) < Integer.bitCount(best);
                if (fewer && canAllCome(wood, set) && (sitters & ~downBy(wood, set)) == 0) {
                    best = set;
                }
            }
            return best;
        }

        private static boolean canAllCome(Wood wood, int set) {
            for (int news = 0; news < wood.newsTold; news++) {
                if (isIn(set, news) && !wood.canCome(news)) {
                    return false;
                }
            }
            return true;
        }

        private int downBy(Wood wood, int set) {
            System.arraycopy(wood.clear, 0, row, 0, MATTER_ROOM);
            for (int news = 0; news < wood.newsTold; news++) {
                if (isIn(set, news)) {
                    int matter = wood.newsOf[news];
                    row[matter] = Math.min(CLEAREST, row[matter] + wood.size[news]);
                }
            }
            return wood.downSet(row);
        }

        /** The holders become, of each matter, those by which it is held but for a set of holds. */
        private void findHolders(Wood wood, int without) {
            Arrays.fill(holders, 0);
            for (int h = 0; h < wood.holds; h++) {
                if (!isIn(without, h)) {
                    holders[wood.held[h]] |= 1 << wood.holder[h];
                }
            }
        }

        private int holdersOfAll(Wood wood, int set) {
            int all = 0;
            for (int m = 0; m < wood.matters; m++) {
                if (isIn(set, m)) {
                    all |= holders[m];
                }
            }
            return all;
        }

        int shortestRing(Wood wood) {
            int best = NONE;
            findHolders(wood, 0);
            for (int m = 0; m < wood.matters; m++) {
                int length = ringFrom(wood, m);
                if (length != NONE && (best == NONE || length < best)) {
                    best = length;
                }
            }
            return best;
        }

        private int ringFrom(Wood wood, int matter) {
            int reached = 1 << matter;
            for (int length = 1; length <= wood.matters; length++) {
                reached = holdersOfAll(wood, reached);
                if (isIn(reached, matter)) {
                    return length;
                }
            }
            return NONE;
        }

        /** The set of the fewest holds without which there is no ring. */
        int fewestHolds(Wood wood) {
            int best = (1 << wood.holds) - 1;
            for (int set = 0; set < 1 << wood.holds; set++) {
                if (Integer.bitCount(set) < Integer.bitCount(best) && isFreeWithout(wood, set)) {
                    best = set;
                }
            }
            return best;
        }

        private boolean isFreeWithout(Wood wood, int without) {
            findHolders(wood, without);
            int left = (1 << wood.matters) - 1;
            // Each round takes away all that nothing left holds; what stays behind as many rounds is in a ring.
            for (int i = 0; i < wood.matters; i++) {
                int held = 0;
                for (int m = 0; m < wood.matters; m++) {
                    if (isIn(left, m) && (holders[m] & left) != 0) {
                        held |= 1 << m;
                    }
                }
                left = held;
            }
            return left == 0;
        }

        /** WAITING by the ORDER, or NONE; it leaves what decidedAt needs. */
        int leastWaiting(Wood wood) {
            findHolders(wood, 0);
            for (int m = 0; m < wood.matters; m++) {
                loads[m] = wood.loadOf(m);
                weights[m] = weightFor(wood, m);
                if (loads[m] == NONE) {
                    return NONE;
                }
            }
            int all = (1 << wood.matters) - 1;
            waits[all] = 0;
            for (int decided = all - 1; decided >= 0; decided--) {
                waits[decided] = FAR;
                for (int m = 0; m < wood.matters; m++) {
                    waits[decided] = Math.min(waits[decided], waitsWith(wood, decided, m));
                }
            }
            return waits[0] < FAR ? waits[0] : NONE;
        }

        private static int weightFor(Wood wood, int matter) {
            int sum = 0;
            for (int s = 0; s < wood.sitters; s++) {
                if (wood.sitsFor[s] == matter) {
                    sum += wood.weight[s];
                }
            }
            return sum;
        }

        /** What is still to be waited behind a set of decided matters, as this one comes next. */
        private int waitsWith(Wood wood, int decided, int next) {
            if (isIn(decided, next) || (holders[next] & ~decided) != 0) {
                return FAR;
            }
            int till = loads[next];
            for (int m = 0; m < wood.matters; m++) {
                if (isIn(decided, m)) {
                    till += loads[m];
                }
            }
            return Math.min(FAR, till * weights[next] + waits[decided | 1 << next]);
        }

        /** The matter at a place of the order, behind a leastWaiting that found one. */
        int decidedAt(Wood wood, int place) {
            int decided = 0;
            int latest = NONE;
            for (int i = 0; i <= place; i++) {
                latest = nextDecided(wood, decided);
                if (latest == NONE) {
                    return NONE;
                }
                decided |= 1 << latest;
            }
            return latest;
        }

        private int nextDecided(Wood wood, int decided) {
            for (int m = 0; m < wood.matters; m++) {
                if (!isIn(decided, m) && waitsWith(wood, decided, m) == waits[decided]) {
                    return m;
                }
            }
            return NONE;
        }

        int shortestRound(Wood wood, int mile) {
            int all = (1 << wood.sitters) - 1 & ~wood.downSet(wood.clear);
            int best = all == 0 ? 0 : FAR;
            Arrays.fill(ways, FAR);
            for (int s = 0; s < wood.sitters; s++) {
                if (isIn(all, s)) {
                    ways[wayTo(1 << s, s)] = Math.abs(mile - wood.mile[s]) * Integer.bitCount(all);
                }
            }
            for (int served = 1; served <= all; served++) {
                for (int last = 0; last < wood.sitters; last++) {
                    goOn(wood, all, served, last);
                }
            }
            for (int last = 0; last < wood.sitters; last++) {
                best = Math.min(best, ways[wayTo(all, last)]);
            }
            return best;
        }

        private static int wayTo(int served, int last) {
            return served * SITTER_ROOM + last;
        }

        /** From one way on to all that have one more served; each mile costs all who still wait a minute. */
        private void goOn(Wood wood, int all, int served, int last) {
            int soFar = ways[wayTo(served, last)];
            if (soFar >= FAR) {
                return;
            }
            int waiting = Integer.bitCount(all & ~served);
            for (int next = 0; next < wood.sitters; next++) {
                if (isIn(all & ~served, next)) {
                    int way = wayTo(served | 1 << next, next);
                    int minutes = Math.abs(wood.mile[last] - wood.mile[next]) * waiting;
                    ways[way] = Math.min(ways[way], soFar + minutes);
                }
            }
        }
    }

    /** Two who bring news by turns. */
    private static final class Game {
        private final int[] row;
        private int first;
        private int second;

        Game() {
            row = new int[MATTER_ROOM];
        }

        private void begin(Wood wood, int sitter, int other) {
            first = sitter;
            second = other;
            System.arraycopy(wood.clear, 0, row, 0, MATTER_ROOM);
        }

        int valueOf(Wood wood, int sitter, int other, int turns) {
            begin(wood, sitter, other);
            return best(wood, turns, true, wood.came);
        }

        /** The first of the best first news, or NONE where to bring none is better than each. */
        int firstNews(Wood wood, int sitter, int other, int turns) {
            begin(wood, sitter, other);
            int move = NONE;
            int most = best(wood, turns - 1, false, wood.came);
            for (int news = wood.newsTold - 1; news >= 0; news--) {
                if (canCome(wood, wood.came, news)) {
                    int value = behind(wood, news, turns, true, wood.came);
                    if (value >= most) {
                        most = value;
                        move = news;
                    }
                }
            }
            return move;
        }

        private boolean canCome(Wood wood, int came, int news) {
            return (came >> news & 1) == 0 && row[wood.newsOf[news]] < CLEAREST;
        }

        /** What comes of it as a news is brought; the row is put back behind it. */
        private int behind(Wood wood, int news, int turns, boolean firstsTurn, int came) {
            int matter = wood.newsOf[news];
            int old = row[matter];
            row[matter] = Math.min(CLEAREST, old + wood.size[news]);
            int value = best(wood, turns - 1, !firstsTurn, came | 1 << news);
            row[matter] = old;
            return value;
        }

        /** What the game comes to by best play; the turns are at most GAME_TURNS, and one less at each level. */
        private int best(Wood wood, int turns, boolean firstsTurn, int came) {
            if (turns <= 0) {
                return heightOf(wood, second) - heightOf(wood, first);
            }
            int value = best(wood, turns - 1, !firstsTurn, came);
            for (int news = 0; news < wood.newsTold; news++) {
                if (canCome(wood, came, news)) {
                    int then = behind(wood, news, turns, firstsTurn, came);
                    value = firstsTurn ? Math.max(value, then) : Math.min(value, then);
                }
            }
            return value;
        }

        private int heightOf(Wood wood, int sitter) {
            return wood.heightBy(sitter, row[wood.sitsFor[sitter]]);
        }
    }
}
