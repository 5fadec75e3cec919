import java.lang.reflect.InvocationTargetException;
import java.lang.reflect.Method;
import java.lang.reflect.Modifier;
import java.util.Arrays;
import java.util.List;
import java.util.Map;
import java.util.Set;
import java.util.TreeMap;
import java.util.TreeSet;
import java.util.function.Supplier;

/**
 * Part 5, and what part 3 says of all its calls: a refused call changes nothing but STATUS, a call that looks changes
 * nothing. Two objects that were told the same are compared by all that can be asked of them, as one was called once more.
 */
public final class EdgeStatusTest {
    private static final Check CHECK = new Check("EdgeStatusTest");

    private interface Call {
        long of(MossSeats x);
    }

    private interface YesCall {
        boolean of(MossSeats x);
    }

    public static void main(String[] args) {
        CHECK.sentence("what the twins are told, they are told alike", () -> {
            for (Supplier<MossSeats> state : states()) {
                CHECK.due("all that can be asked", all(state.get(), But.NOTHING).equals(all(state.get(), But.NOTHING)), true);
            }
        });
        refusedTrays();
        refusedTexts();
        refusedThings();
        refusedDeeds();
        refusedByFullness();
        refusedAhead();
        refusedByTwos();
        refusedGuesses();
        refusedYearsAndMarks();
        faultyTexts();
        looks();
        noStatus();
        statusOfAllCalls();
        CHECK.finish();
    }

    // ---- what the twins are told

    private static MossSeats bare() {
        return new MossSeats();
    }

    /** All is there but the fullness: inn is CLEAR by 0, NEWS 1 CAME, tea is SETTLED and has NEWS 4. */
    private static MossSeats rich() {
        MossSeats x = CHECK.with(Check.WOOD);
        trays(x);
        Check.years(x, "day 2; any; crisis law 5; turn gil tax; loop 3; any; end;");
        x.mark();
        x.live(5);
        x.turn(0, 0);
        x.day(1);
        x.bring(1);
        x.hear(3, 5);
        x.crisis(0, 100);
        x.crisis(0, 100);
        x.mark();
        x.rule(3);
        x.lasts(2);
        Check.wood(x, "odds 17;");
        Check.feed(x, "matter z pace 1;      ");
        return x;
    }

    /** TRAY 0 has three numbers, 1 has five, of which the last is no HEIGHT, 2 has 60, 3 is MISSING. */
    private static void trays(MossSeats x) {
        x.tray(0, 0, 3);
        x.write(0, 1, 77);
        x.tray(1, 3, 5);
        x.write(1, 1, 99);
        x.write(1, 3, 98);
        x.write(1, 4, -5);
        x.tray(2, 3, 60);
        x.write(2, 59, 41);
    }

    /** As many things of each kind as there may be, on the last DAY. */
    private static MossSeats full() {
        MossSeats x = CHECK.with("matter a pace 3;matter b pace 4 clear 9;matter c pace 7;matter d pace 9 clear 80;matter e pace 1 clear 70;matter f pace 20;"
            + "hold a by b;hold b by c;hold c by d;hold a by c;hold a by d;hold e by f;hold e by d;hold f by d;hold b by d;hold f by c;"
            + "sitter s mile 3 tall 50 for a;sitter t mile 50 tall 99 for b;sitter u mile 9 tall 9 for c;sitter v mile 20 tall 60 for d;"
            + "sitter w mile 21 tall 33 for e;sitter x mile 40 tall 80 for f;sitter y mile 41 tall 70 for a;"
            + "news a size 60;news a size 40;news b size 91;news c size 50;news c size 50;news d size 20;news e size 30;news f size 100;");
        Check.years(x, "any; bring 7; crisis f 9; day 3;");
        for (int i = 0; i < 10; i++) {
            x.day(999);
            if (i < 3) {
                x.mark();
            }
        }
        x.day(9);
        x.crisis(0, 30);
        x.crisis(3, 100);
        x.turn(0, 2);
        trays(x);
        for (int i = 0; i < 45; i++) {
            x.feed(0x3F3F3F3F, 0x3F3F3F3F, 0x3F3F3F3F, 0x3F3F3F3F, 0x3F3F3F3F);
        }
        return x;
    }

    /** All SITTERS are DOWN, and the only NEWS would raise nobody; no YEARS. */
    private static MossSeats down() {
        MossSeats x = CHECK.with("matter a pace 0 clear 100; matter b pace 0 clear 50; sitter s mile 0 tall 9 for a; sitter t mile 0 tall 1 for b; news a size 9;");
        trays(x);
        x.mark();
        x.hurry(1, 5);
        x.lasts(3);
        Check.feed(x, "?");
        return x;
    }

    /** Lived, with no MARK that is left. */
    private static MossSeats markless() {
        MossSeats x = rich();
        x.back();
        x.back();
        return x;
    }

    private static List<Supplier<MossSeats>> states() {
        return List.of(EdgeStatusTest::bare, EdgeStatusTest::rich, EdgeStatusTest::full, EdgeStatusTest::down);
    }

    // ---- what is asked of the twins

    private static void things(StringBuilder seen, MossSeats x) {
        for (int m = 0; m < 6; m++) {
            seen.append("\nmatter ").append(m).append(": ").append(x.matter(m, 1)).append(' ').append(x.matter(m, 2));
        }
        for (int h = 0; h < 10; h++) {
            seen.append("\nhold ").append(h).append(": ").append(x.hold(h, 0)).append(' ').append(x.hold(h, 1));
        }
        for (int s = 0; s < 7; s++) {
            seen.append("\nsitter ").append(s).append(": ").append(x.sitter(s, 0)).append(' ').append(x.sitter(s, 1)).append(' ').append(x.sitter(s, 3));
        }
        for (int n = 0; n < 8; n++) {
            seen.append("\nnews ").append(n).append(": ").append(x.news(n, 0)).append(' ').append(x.news(n, 1));
        }
    }

    private static void becomes(StringBuilder seen, MossSeats x) {
        seen.append("\nmany:");
        for (int what = 0; what <= 9; what++) {
            seen.append(' ').append(x.many(what));
        }
        for (int m = 0; m < 6; m++) {
            seen.append(' ').append(x.matter(m, 0));
        }
        for (int s = 0; s < 7; s++) {
            seen.append(' ').append(x.sitter(s, 2)).append(' ').append(x.sitter(s, 4));
        }
    }

    private static void trays(StringBuilder seen, MossSeats x) {
        for (int t = 0; t <= 3; t++) {
            seen.append("\ntray ").append(t).append(':');
            for (int place : new int[] {0, 1, 2, 3, 4, 5, 59, 60}) {
                long v = x.read(t, place);
                seen.append(' ').append(v).append(v == -1 ? "/" + x.status() : "");
            }
        }
    }

    /** What is left out as twins are compared. */
    private enum But { NOTHING, THE_FRACTION, THE_TAPE }

    /** All that can be asked; what would be changed by asking for the rest comes first, what changes by asking comes last. */
    private static String all(MossSeats x, But but) {
        StringBuilder seen = new StringBuilder();
        if (but != But.THE_FRACTION) {
            seen.append("fraction ").append(x.top()).append(' ').append(x.bottom());
        }
        if (but != But.THE_TAPE) {
            seen.append("\nfault ").append(x.fault(0)).append(' ').append(x.fault(1));
            seen.append("\nfeed: ").append(x.feed(0x6D617474, 0x65722061, 0x20706163, 0x65203230, 0x3B202020));
        }
        trays(seen, x);
        seen.append("\nlived:");
        for (int what = 0; what <= 4; what++) {
            seen.append(' ').append(x.lived(what));
        }
        becomes(seen, x);
        things(seen, x);
        seen.append("\nlive: ").append(x.live(7));
        becomes(seen, x);
        for (int i = 0; i < 3; i++) {
            seen.append("\nback: ").append(x.back()).append(", live: ").append(x.live(8));
            becomes(seen, x);
        }
        if (but != But.THE_TAPE) {
            seen.append("\nwood: ").append(x.wood(60)).append(' ').append(x.wood(40)).append(' ').append(x.wood(20)).append(' ').append(x.status()).append(' ').append(x.many(0));
        }
        return seen.toString();
    }

    private static void sameTwins(String what, MossSeats called, MossSeats twin, But but) {
        String[] got = all(called, but).split("\n");
        String[] due = all(twin, but).split("\n");
        CHECK.due(what + " is seen in as many lines", got.length, due.length);
        for (int i = 0; i < Math.min(got.length, due.length); i++) {
            CHECK.due(what + " changed: " + due[i] + " to: " + got[i], got[i].equals(due[i]), true);
        }
    }

    private static void refused(String what, int status, Supplier<MossSeats> state, Call call) {
        CHECK.sentence("A call with another STATUS than 0 gives NONE, or false, and changes nothing but STATUS: " + what + ", " + status, () -> {
            MossSeats x = state.get();
            CHECK.due(what, call.of(x), -1);
            CHECK.due(what + ", STATUS", x.status(), status);
            sameTwins(what, x, state.get(), But.NOTHING);
        });
    }

    private static void refusedNo(String what, int status, Supplier<MossSeats> state, YesCall call) {
        refused(what, status, state, x -> call.of(x) ? 1 : -1);
    }

    private static void refusedTrays() {
        refusedNo("tray(4, 0, 1)", 1, EdgeStatusTest::rich, x -> x.tray(4, 0, 1));
        refusedNo("tray(0, 4, 1)", 1, EdgeStatusTest::rich, x -> x.tray(0, 4, 1));
        refusedNo("tray(0, 0, 61)", 5, EdgeStatusTest::rich, x -> x.tray(0, 0, 61));
        refusedNo("tray(3, 0, 61)", 5, EdgeStatusTest::rich, x -> x.tray(3, 0, 61));
        refusedNo("tray(0, 0, -1)", 6, EdgeStatusTest::rich, x -> x.tray(0, 0, -1));
        refusedNo("tray(3, 0, -1)", 6, EdgeStatusTest::rich, x -> x.tray(3, 0, -1));
        refusedNo("write(4, 0, 9)", 1, EdgeStatusTest::rich, x -> x.write(4, 0, 9));
        refusedNo("write(3, 0, 9)", 3, EdgeStatusTest::rich, x -> x.write(3, 0, 9));
        refusedNo("write(0, 3, 9)", 4, EdgeStatusTest::rich, x -> x.write(0, 3, 9));
        refused("read(4, 0)", 1, EdgeStatusTest::rich, x -> x.read(4, 0));
        refused("read(3, 0)", 3, EdgeStatusTest::rich, x -> x.read(3, 0));
        refused("read(0, 3)", 4, EdgeStatusTest::rich, x -> x.read(0, 3));
        refusedNo("pour(4, 0, 1, 0, 1)", 1, EdgeStatusTest::rich, x -> x.pour(4, 0, 1, 0, 1));
        refusedNo("pour(1, 0, 3, 0, 1)", 3, EdgeStatusTest::rich, x -> x.pour(1, 0, 3, 0, 1));
        refusedNo("pour(0, 0, 1, 0, 1)", 11, EdgeStatusTest::rich, x -> x.pour(0, 0, 1, 0, 1));
        refusedNo("pour(1, 0, 2, 0, -1)", 6, EdgeStatusTest::rich, x -> x.pour(1, 0, 2, 0, -1));
        refusedNo("pour(1, 1, 2, 0, 5)", 4, EdgeStatusTest::rich, x -> x.pour(1, 1, 2, 0, 5));
        refusedNo("pour(2, 55, 1, 1, 5)", 4, EdgeStatusTest::rich, x -> x.pour(2, 55, 1, 1, 5));
        refused("copyHeights(4)", 1, EdgeStatusTest::rich, x -> x.copyHeights(4));
        refused("copyHeights(3)", 3, EdgeStatusTest::rich, x -> x.copyHeights(3));
        refused("copyHeights(0)", 4, EdgeStatusTest::rich, x -> x.copyHeights(0));
    }

    private static void refusedTexts() {
        refused("wood(41)", 5, EdgeStatusTest::rich, x -> x.wood(41));
        refused("wood(-1)", 5, EdgeStatusTest::rich, x -> x.wood(-1));
        refused("years(41)", 5, EdgeStatusTest::rich, x -> x.years(41));
        refused("years(-1)", 5, EdgeStatusTest::rich, x -> x.years(-1));
        refused("wood(901)", 5, EdgeStatusTest::full, x -> x.wood(901));
        refused("years(301)", 5, EdgeStatusTest::full, x -> x.years(301));
        refused("wood(1)", 5, EdgeStatusTest::bare, x -> x.wood(1));
        refused("years(1)", 5, EdgeStatusTest::bare, x -> x.years(1));
    }

    private static void refusedThings() {
        refused("many(10)", 5, EdgeStatusTest::rich, x -> x.many(10));
        refused("matter(4, 0)", 2, EdgeStatusTest::rich, x -> x.matter(4, 0));
        refused("matter(0, 5)", 5, EdgeStatusTest::rich, x -> x.matter(0, 5));
        refused("matter(1, 4)", 8, EdgeStatusTest::rich, x -> x.matter(1, 4));
        refused("hold(2, 0)", 2, EdgeStatusTest::rich, x -> x.hold(2, 0));
        refused("hold(0, 2)", 5, EdgeStatusTest::rich, x -> x.hold(0, 2));
        refused("sitter(4, 0)", 2, EdgeStatusTest::rich, x -> x.sitter(4, 0));
        refused("sitter(0, 5)", 5, EdgeStatusTest::rich, x -> x.sitter(0, 5));
        refused("news(5, 0)", 2, EdgeStatusTest::rich, x -> x.news(5, 0));
        refused("news(0, 3)", 5, EdgeStatusTest::rich, x -> x.news(0, 3));
    }

    private static void refusedDeeds() {
        refused("day(0)", 5, EdgeStatusTest::rich, x -> x.day(0));
        refused("day(1000)", 5, EdgeStatusTest::rich, x -> x.day(1000));
        refused("day(1)", 7, EdgeStatusTest::full, x -> x.day(1));
        refused("bring(5)", 2, EdgeStatusTest::rich, x -> x.bring(5));
        refused("bring(1), that CAME", 9, EdgeStatusTest::rich, x -> x.bring(1));
        refused("bring(4), of a SETTLED one", 9, EdgeStatusTest::rich, x -> x.bring(4));
        refused("crisis(4, 1)", 2, EdgeStatusTest::rich, x -> x.crisis(4, 1));
        refused("crisis(1, 0)", 5, EdgeStatusTest::rich, x -> x.crisis(1, 0));
        refused("crisis(1, 101)", 5, EdgeStatusTest::rich, x -> x.crisis(1, 101));
        refused("crisis(0, 1), CLEAR by 0", 9, EdgeStatusTest::rich, x -> x.crisis(0, 1));
        refused("turn(4, 0)", 2, EdgeStatusTest::rich, x -> x.turn(4, 0));
        refused("turn(0, 4)", 2, EdgeStatusTest::rich, x -> x.turn(0, 4));
        refused("turn(0, 0), FOR it", 9, EdgeStatusTest::rich, x -> x.turn(0, 0));
        refused("sit(0, 1, 4)", 2, EdgeStatusTest::rich, x -> x.sit(0, 1, 4));
        refused("sit(60, 1, 0)", 5, EdgeStatusTest::rich, x -> x.sit(60, 1, 0));
        refused("sit(0, 100, 0)", 5, EdgeStatusTest::rich, x -> x.sit(0, 100, 0));
        refused("hear(4, 1)", 2, EdgeStatusTest::rich, x -> x.hear(4, 1));
        refused("hear(0, 101)", 5, EdgeStatusTest::rich, x -> x.hear(0, 101));
        refused("bind(0, 4)", 2, EdgeStatusTest::rich, x -> x.bind(0, 4));
        refused("bind(1, 1)", 5, EdgeStatusTest::rich, x -> x.bind(1, 1));
        refused("bind(0, 1)", 9, EdgeStatusTest::rich, x -> x.bind(0, 1));
        refused("loose(2)", 2, EdgeStatusTest::rich, x -> x.loose(2));
        refused("hurry(4, 1)", 2, EdgeStatusTest::rich, x -> x.hurry(4, 1));
        refused("hurry(0, 21)", 5, EdgeStatusTest::rich, x -> x.hurry(0, 21));
        refusedNo("rule(17)", 5, EdgeStatusTest::rich, x -> x.rule(17));
    }

    private static void refusedByFullness() {
        refused("sit, an eighth", 7, EdgeStatusTest::full, x -> x.sit(0, 1, 0));
        refused("hear, a ninth", 7, EdgeStatusTest::full, x -> x.hear(0, 1));
        refused("bind, an 11th", 7, EdgeStatusTest::full, x -> x.bind(5, 4));
        refused("mark, a fourth", 7, EdgeStatusTest::full, MossSeats::mark);
        CHECK.sentence("Promise 9: NONE if there would be more than 900: nothing changes", () -> {
            MossSeats x = full();
            x.many(10);
            CHECK.due("feed", x.feed(0x20202020, 0x20202020, 0x20202020, 0x20202020, 0x20202020), -1);
            CHECK.due("STATUS", x.status(), 5);
            sameTwins("feed", x, full(), But.NOTHING);
        });
    }

    private static void refusedAhead() {
        refused("clearIn(4, 0)", 2, EdgeStatusTest::rich, x -> x.clearIn(4, 0));
        refused("clearIn(0, 201)", 5, EdgeStatusTest::rich, x -> x.clearIn(0, 201));
        refused("heightIn(4, 0)", 2, EdgeStatusTest::rich, x -> x.heightIn(4, 0));
        refused("heightIn(0, 201)", 5, EdgeStatusTest::rich, x -> x.heightIn(0, 201));
        refused("downIn(4)", 2, EdgeStatusTest::rich, x -> x.downIn(4));
        refused("downIn(0)", 8, EdgeStatusTest::rich, x -> x.downIn(0));
        refused("least(16)", 5, EdgeStatusTest::rich, x -> x.least(16));
        refused("least(1)", 8, EdgeStatusTest::rich, x -> x.least(1));
        refused("leastSet(16)", 5, EdgeStatusTest::rich, x -> x.leastSet(16));
        refused("leastSet(1)", 8, EdgeStatusTest::rich, x -> x.leastSet(1));
        refused("ring()", 8, EdgeStatusTest::rich, MossSeats::ring);
        refused("waiting()", 8, EdgeStatusTest::rich, MossSeats::waiting);
        refused("orderAt(0)", 8, EdgeStatusTest::rich, x -> x.orderAt(0));
        refused("orderAt(6)", 8, EdgeStatusTest::full, x -> x.orderAt(6));
        refused("round(60)", 5, EdgeStatusTest::rich, x -> x.round(60));
    }

    private static void refusedByTwos() {
        refused("out(0, 4, 0)", 1, EdgeStatusTest::rich, x -> x.out(0, 4, 0));
        refused("out(4, 2, 0)", 2, EdgeStatusTest::rich, x -> x.out(4, 2, 0));
        refused("out(0, 3, 0)", 3, EdgeStatusTest::rich, x -> x.out(0, 3, 0));
        refused("out(0, 0, 2)", 4, EdgeStatusTest::rich, x -> x.out(0, 0, 2));
        refused("out(0, 2, 21)", 5, EdgeStatusTest::rich, x -> x.out(0, 2, 21));
        refused("out(0, 0, 1), of 41 DAYS", 5, () -> {
            MossSeats x = rich();
            x.write(0, 0, 41);
            return x;
        }, x -> x.out(0, 0, 1));
        refused("ask(0, 4, 0)", 1, EdgeStatusTest::rich, x -> x.ask(0, 4, 0));
        refused("ask(4, 2, 0)", 2, EdgeStatusTest::rich, x -> x.ask(4, 2, 0));
        refused("ask(0, 3, 0)", 3, EdgeStatusTest::rich, x -> x.ask(0, 3, 0));
        refused("ask(0, 0, 2)", 4, EdgeStatusTest::rich, x -> x.ask(0, 0, 2));
        refused("ask(0, 2, 21)", 5, EdgeStatusTest::rich, x -> x.ask(0, 2, 21));
        refused("ask(0, 1, 1)", 8, EdgeStatusTest::rich, x -> x.ask(0, 1, 1));
        refused("laws(4, 0)", 1, EdgeStatusTest::rich, x -> x.laws(4, 0));
        refused("laws(3, 0)", 3, EdgeStatusTest::rich, x -> x.laws(3, 0));
        refused("laws(0, 2)", 4, EdgeStatusTest::rich, x -> x.laws(0, 2));
        refused("laws(2, 21)", 5, EdgeStatusTest::rich, x -> x.laws(2, 21));
        refused("lawOf(4, 0, 0)", 1, EdgeStatusTest::rich, x -> x.lawOf(4, 0, 0));
        refused("lawOf(3, 0, 0)", 3, EdgeStatusTest::rich, x -> x.lawOf(3, 0, 0));
        refused("lawOf(0, 2, 0)", 4, EdgeStatusTest::rich, x -> x.lawOf(0, 2, 0));
        refused("lawOf(2, 1, 2)", 5, EdgeStatusTest::rich, x -> x.lawOf(2, 1, 2));
        refused("lawOf(1, 2, 0)", 8, EdgeStatusTest::rich, x -> x.lawOf(1, 2, 0));
    }

    private static void refusedGuesses() {
        refusedNo("off(100, 0)", 5, EdgeStatusTest::rich, x -> x.off(100, 0));
        refusedNo("off(0, 9)", 5, EdgeStatusTest::rich, x -> x.off(0, 9));
        refused("stay(100, 0)", 5, EdgeStatusTest::rich, x -> x.stay(100, 0));
        refused("stay(0, 9)", 5, EdgeStatusTest::rich, x -> x.stay(0, 9));
        refused("game(4, 0, 1)", 2, EdgeStatusTest::rich, x -> x.game(4, 0, 1));
        refused("game(0, 4, 1)", 2, EdgeStatusTest::rich, x -> x.game(0, 4, 1));
        refused("game(0, 0, 1)", 5, EdgeStatusTest::rich, x -> x.game(0, 0, 1));
        refused("game(0, 1, 5)", 5, EdgeStatusTest::rich, x -> x.game(0, 1, 5));
        refused("moveOf(4, 0, 1)", 2, EdgeStatusTest::rich, x -> x.moveOf(4, 0, 1));
        refused("moveOf(0, 0, 1)", 5, EdgeStatusTest::rich, x -> x.moveOf(0, 0, 1));
        refused("moveOf(0, 1, 0)", 5, EdgeStatusTest::rich, x -> x.moveOf(0, 1, 0));
        refused("moveOf(0, 1, 1)", 8, EdgeStatusTest::down, x -> x.moveOf(0, 1, 1));
        refusedNo("lasts(13)", 5, EdgeStatusTest::rich, x -> x.lasts(13));
        refusedNo("share(4)", 2, EdgeStatusTest::rich, x -> x.share(4));
        refusedNo("share(0)", 8, EdgeStatusTest::down, x -> x.share(0));
    }

    private static void refusedYearsAndMarks() {
        refused("live(10000)", 5, EdgeStatusTest::rich, x -> x.live(10000));
        refused("live(0)", 8, EdgeStatusTest::down, x -> x.live(0));
        refused("lived(5)", 5, EdgeStatusTest::rich, x -> x.lived(5));
        refused("lived(0)", 8, EdgeStatusTest::full, x -> x.lived(0));
        refusedNo("mean(9999, 2)", 5, EdgeStatusTest::rich, x -> x.mean(9999, 2));
        refusedNo("mean(0, 21)", 5, EdgeStatusTest::rich, x -> x.mean(0, 21));
        refusedNo("mean(0, 1)", 8, EdgeStatusTest::down, x -> x.mean(0, 1));
        refused("back()", 8, EdgeStatusTest::bare, MossSeats::back);
        refused("back()", 8, EdgeStatusTest::markless, MossSeats::back);
    }

    private static void faultyTexts() {
        String[] woods = {"?", "odds 3; odds 3;", "matter a pace 1; sitter s mile 0 tall 1 for a; news a size 1; hold a by a;", "matter"};
        for (String text : woods) {
            CHECK.sentence("(but wood() ... with 10 the tape, and what fault() tells): " + text, () -> faulty(text, true));
        }
        String[] years = {"?", "any; any; day 41;", "loop 9; loop 9; day 1; end;", "stop", "end;"};
        for (String text : years) {
            CHECK.sentence("(but ... years() with 10 the tape, and what fault() tells): " + text, () -> faulty(text, false));
        }
    }

    private static void faulty(String text, boolean isWood) {
        for (Supplier<MossSeats> state : states()) {
            MossSeats x = state.get();
            emptyTape(x);
            CHECK.due("the text", isWood ? Check.wood(x, text) : Check.years(x, text), -1);
            CHECK.due("STATUS", x.status(), 10);
            CHECK.due("the tape is empty", x.feed(0, 0, 0, 0, 0), 20);
            sameTwins("a text with a FAULT", x, state.get(), But.THE_TAPE);
        }
    }

    /** In each state the first byte of the tape, or this one, is no STEP's. */
    private static void emptyTape(MossSeats x) {
        x.feed(0x3F000000, 0, 0, 0, 0);
        x.years(20);
        CHECK.due("its FAULT", x.status(), 10);
    }

    /** What looks is asked in each state in which it is not refused. */
    private static void looks(String what, boolean tellsFraction, Call call) {
        CHECK.sentence("nothing changes by it: " + what, () -> {
            int asked = 0;
            for (Supplier<MossSeats> state : List.<Supplier<MossSeats>>of(EdgeStatusTest::rich, EdgeStatusTest::full, EdgeStatusTest::ringed)) {
                MossSeats x = state.get();
                long answer = call.of(x);
                if (x.status() != 0) {
                    continue;
                }
                asked++;
                sameTwins(what, x, state.get(), tellsFraction ? But.THE_FRACTION : But.NOTHING);
                MossSeats again = state.get();
                call.of(again);
                CHECK.due(what + " once more", call.of(again), answer);
            }
            CHECK.due(what + " is refused in each state", asked == 0, false);
        });
    }

    private interface Kind {
        int of(MossSeats x, int what);
    }

    private static void looksByWhat(String call, int whats, Kind kind) {
        for (int what = 0; what < whats; what++) {
            int which = what;
            looks(call + " " + what, false, x -> kind.of(x, which));
        }
    }

    private static void looks() {
        looksByWhat("many", 10, MossSeats::many);
        looksByWhat("matter", 5, (x, what) -> x.matter(2, what));
        looksByWhat("hold", 2, (x, what) -> x.hold(1, what));
        looksByWhat("sitter", 5, (x, what) -> x.sitter(3, what));
        looksByWhat("news", 3, (x, what) -> x.news(3, what));
        looksByWhat("lived", 5, MossSeats::lived);
        looks("read", false, x -> x.read(1, 4));
        looks("clearIn", false, x -> x.clearIn(0, 200));
        looks("heightIn", false, x -> x.heightIn(0, 200));
        looks("downIn", false, x -> x.downIn(3));
        looks("least", false, x -> x.least(2 + 4));
        looks("leastSet", false, x -> x.leastSet(2 + 4));
        looks("ring", false, MossSeats::ring);
        looks("loosen", false, MossSeats::loosen);
        looks("loosenSet", false, MossSeats::loosenSet);
        looks("waiting", false, MossSeats::waiting);
        looks("orderAt", false, x -> x.orderAt(0));
        looks("round", false, x -> x.round(59));
        looks("out", false, x -> x.out(2, 2, 1));
        looks("ask", false, x -> x.ask(2, 2, 0));
        looks("laws", false, x -> x.laws(2, 1));
        looks("lawOf", false, x -> x.lawOf(2, 0, 1));
        looks("off", true, x -> x.off(99, 8) ? 1 : 0);
        looks("stay", false, x -> x.stay(99, 8));
        looks("game", false, x -> x.game(0, 6, 4));
        looks("moveOf", false, x -> x.moveOf(1, 2, 4));
        looks("lasts", true, x -> x.lasts(12) ? 1 : 0);
        looks("share", true, x -> x.share(2) ? 1 : 0);
        looks("mean", true, x -> x.mean(77, 20) ? 1 : 0);
        looks("mean, to the last seed", true, x -> x.mean(9980, 20) ? 1 : 0);
    }

    private static MossSeats ringed() {
        MossSeats x = rich();
        x.bind(1, 0);
        x.bind(3, 2);
        return x;
    }

    private static void noStatus() {
        CHECK.sentence("status(), fault(), feed(), top(), bottom() have none, nothing changes by them", () -> {
            for (Supplier<MossSeats> state : states()) {
                MossSeats x = state.get();
                x.many(10);
                for (int i = -2; i < 5; i++) {
                    x.fault(i);
                }
                x.top();
                x.bottom();
                CHECK.due("STATUS", x.status(), 5);
                CHECK.due("STATUS once more", x.status(), 5);
                sameTwins("what has no STATUS", x, state.get(), But.NOTHING);
            }
        });
    }

    // ---- all calls, by all that may be asked

    private static final Map<String, Set<Integer>> BRACKETS = new TreeMap<>();

    private static void may(String call, Integer... status) {
        TreeSet<Integer> set = new TreeSet<>(Set.of(status));
        set.add(0);
        BRACKETS.put(call, set);
    }

    private static void brackets() {
        may("tray", 1, 5, 6);
        may("write", 1, 3, 4);
        may("read", 1, 3, 4);
        may("pour", 1, 3, 11, 6, 4);
        may("wood", 5, 10);
        may("years", 5, 10);
        may("many", 5);
        may("matter", 2, 5, 8);
        for (String call : new String[] {"hold", "sitter", "news", "hurry", "clearIn", "heightIn", "game"}) {
            may(call, 2, 5);
        }
        may("copyHeights", 1, 3, 4);
        may("day", 5, 7);
        may("bring", 2, 9);
        may("crisis", 2, 5, 9);
        may("turn", 2, 9);
        may("sit", 2, 5, 7);
        may("hear", 2, 5, 7);
        may("bind", 2, 5, 7, 9);
        may("loose", 2);
        may("downIn", 2, 8);
        for (String call : new String[] {"least", "leastSet", "live", "lived", "mean"}) {
            may(call, 5, 8);
        }
        for (String call : new String[] {"ring", "waiting", "orderAt", "back"}) {
            may(call, 8);
        }
        may("loosen");
        may("loosenSet");
        for (String call : new String[] {"rule", "round", "off", "stay", "lasts"}) {
            may(call, 5);
        }
        may("out", 1, 2, 3, 4, 5);
        may("ask", 1, 2, 3, 4, 5, 8);
        may("laws", 1, 3, 4, 5);
        may("lawOf", 1, 3, 4, 5, 8);
        may("moveOf", 2, 5, 8);
        may("share", 2, 8);
        may("mark", 7);
    }

    private static final int[] MANY = {Integer.MIN_VALUE, -1, 0, 1, 2, 3, 4, 6, 8, 21, 60, 10000, Integer.MAX_VALUE};
    private static final int[] FEW = {Integer.MIN_VALUE, -1, 0, 1, 3, Integer.MAX_VALUE};

    private static void statusOfAllCalls() {
        brackets();
        for (Method method : MossSeats.class.getDeclaredMethods()) {
            boolean isCall = Modifier.isPublic(method.getModifiers()) && BRACKETS.containsKey(method.getName());
            if (isCall) {
                CHECK.sentence("STATUS of " + method.getName() + ": of its brackets; NONE, or false, by another one than 0; nothing is thrown", () -> {
                    for (Supplier<MossSeats> state : states()) {
                        callAll(method, state);
                    }
                });
            }
        }
        CHECK.sentence("all calls that have a STATUS were asked", () -> CHECK.due("how many", BRACKETS.size(), 48));
    }

    private static void callAll(Method method, Supplier<MossSeats> state) {
        Class<?>[] types = method.getParameterTypes();
        int[] values = types.length > 3 ? FEW : MANY;
        int all = 1;
        for (int i = 0; i < types.length; i++) {
            all *= values.length;
        }
        MossSeats x = state.get();
        TreeSet<Integer> seen = new TreeSet<>();
        boolean isAsAnswered = true;
        for (int k = 0; k < all; k++) {
            if (k % 200 == 199) {
                x = state.get();
            }
            int rest = k;
            Object[] args = new Object[types.length];
            for (int i = 0; i < types.length; i++) {
                int v = values[rest % values.length];
                rest /= values.length;
                args[i] = types[i] == long.class ? (Object) (long) v : (Object) v;
            }
            Object answer = called(method, x, args);
            int status = x.status();
            seen.add(status);
            isAsAnswered &= fits(method.getName(), answer, status);
        }
        CHECK.due(method.getName() + ": STATUS of its brackets alone, not " + seen, BRACKETS.get(method.getName()).containsAll(seen), true);
        CHECK.due(method.getName() + ": NONE, or false, just by another STATUS than 0", isAsAnswered, true);
    }

    private static Object called(Method method, MossSeats x, Object[] args) {
        try {
            return method.invoke(x, args);
        } catch (InvocationTargetException | IllegalAccessException thrown) {
            throw new IllegalStateException(method.getName() + Arrays.toString(args) + " threw " + thrown.getCause(), thrown);
        }
    }

    private static boolean fits(String call, Object answer, int status) {
        if (answer instanceof Boolean) {
            return (Boolean) answer == (status == 0);
        }
        long number = ((Number) answer).longValue();
        boolean mayBeBelow = call.equals("read") || call.equals("game");
        return status == 0 ? number >= 0 || mayBeBelow : number == -1;
    }
}
