import java.util.ArrayList;
import java.util.List;

/** The boundary cases of part 4 (promises 11 and 50 to 54): a test for each sentence. */
public final class EdgeYearsTest {
    private static final Check CHECK = new Check("EdgeYearsTest");
    private static final String LATE = "matter a pace 0 clear 90; matter b pace 0 clear 50; matter c pace 0 clear 5; odds 8;";

    public static void main(String[] args) {
        taking();
        steps();
        faultTwo();
        faultsThreeAndFour();
        faultsSixAndSeven();
        days();
        bringCrisisTurn();
        tests();
        any();
        anyMissed();
        loops();
        threeHundred();
        seeds();
        lived();
        mean();
        marks();
        CHECK.finish();
    }

    private static void ok(String text, int steps) {
        MossSeats x = CHECK.with(Check.WOOD);
        CHECK.due("years of: " + text, Check.years(x, text), steps);
        CHECK.due("STATUS of: " + text, x.status(), 0);
        CHECK.due("FAULT of: " + text, x.fault(0), 0);
        CHECK.due("no place of: " + text, x.fault(1), -1);
    }

    private static void fault(String text, int kind, int place) {
        MossSeats x = CHECK.with(Check.WOOD);
        CHECK.due("years of: " + text, Check.years(x, text), -1);
        CHECK.due("STATUS of: " + text, x.status(), 10);
        CHECK.due("FAULT of: " + text, x.fault(0), kind);
        CHECK.due("place of: " + text, x.fault(1), place);
    }

    /** A fault at the token that the mark * stands ahead of; without one, at the text's end. */
    private static void fault(String text, int kind) {
        int mark = text.indexOf('*');
        String plain = mark < 0 ? text : text.substring(0, mark) + text.substring(mark + 1);
        fault(plain, kind, mark < 0 ? plain.length() : mark);
    }

    private static MossSeats with(String wood, String years) {
        MossSeats x = CHECK.with(wood);
        CHECK.due("years for a test: " + years, Check.years(x, years) >= 0, true);
        return x;
    }

    /** STEPS, then MISSED, DAYS, NEWS BROUGHT, CRISES, 1 if a STEP was left. */
    private static void lives(String what, MossSeats x, int seed, int steps, int... due) {
        CHECK.good(what + ": live", x, x.live(seed), steps);
        for (int i = 0; i < due.length; i++) {
            CHECK.good(what + ": lived(" + i + ")", x, x.lived(i), due[i]);
        }
    }

    private static void taking() {
        CHECK.sentence("YEARS are a TEXT of at most 300 bytes", () -> {
            ok(" ".repeat(295) + "stop;", 1);
            fault(" ".repeat(299) + "*?", 1);
            fault(" ".repeat(296) + "stop", 2);
            ok("stop;" + "\n".repeat(295), 1);
        });
        CHECK.sentence("Promise 11: (5: above 300, too)", () -> {
            MossSeats x = CHECK.with(Check.WOOD);
            Check.feed(x, "stop;" + " ".repeat(315));
            CHECK.refused("301", x, 5, () -> x.years(301));
            CHECK.refused("all 320", x, 5, () -> x.years(320));
            CHECK.outside(321, n -> CHECK.refused("years(" + n + ")", x, 5, () -> x.years(n)));
            CHECK.due("the tape stays", x.feed(0, 0, 0, 0, 0), 340);
            CHECK.good("300", x, x.years(300), 1);
            CHECK.outside(1, n -> CHECK.refused("of an empty tape " + n, x, 5, () -> x.years(n)));
        });
        CHECK.sentence("Promise 11: Likewise: the first n bytes", () -> {
            MossSeats x = CHECK.with(Check.WOOD);
            Check.feed(x, "day 12; any; any;");
            CHECK.good("one STEP of three", x, x.years(7), 1);
            CHECK.due("the tape is empty then", x.feed(0, 0, 0, 0, 0), 20);
            x.years(20);
            CHECK.due("with 10, too", x.feed(0, 0, 0, 0, 0), 20);
            Check.feed(x, "day 12;");
            CHECK.due("a NUMBER ends with them", x.years(25), -1);
        });
        CHECK.sentence("YEARS: {STEP}, none", () -> {
            MossSeats x = CHECK.with(Check.WOOD);
            CHECK.good("of no bytes", x, x.years(0), 0);
            lives("no STEPS", x, 0, 0, 0, 0, 0, 0, 0);
            ok(" \n ", 0);
        });
        CHECK.sentence("YEARS ... (none at first)", () -> {
            MossSeats x = CHECK.with(Check.WOOD);
            CHECK.refused("live", x, 8, () -> x.live(0));
            CHECK.refusedNo("mean", x, 8, () -> x.mean(0, 1));
        });
        CHECK.sentence("Promise 11: (10), the old ones stay", () -> {
            for (String bad : new String[] {"day 41;", "any; any; any; go", "loop 9; day 1;", "?"}) {
                MossSeats x = with(Check.WOOD, "day 3; any;");
                x.rule(0);
                CHECK.due("years", Check.years(x, bad), -1);
                lives("behind " + bad, x, 0, 2, 0, 4, 0, 0, 0);
            }
        });
        CHECK.sentence("Promise 11: they are there in place of those ahead", () -> {
            MossSeats x = with(Check.WOOD, "loop 9; day 3; end; any; any; any;");
            CHECK.good("one STEP", x, Check.years(x, "day 1;"), 1);
            lives("that alone", x, 0, 1, 0, 1, 0, 0, 0);
            x.years(0);
            lives("none", x, 0, 0, 0, 0, 0, 0, 0);
        });
    }

    private static void steps() {
        CHECK.sentence("YEARS: how many STEPS (when, loop are such; end is none)", () -> {
            ok("day 1;", 1);
            ok("when down gil; end;", 1);
            ok("loop 1; end;", 1);
            ok("loop 1; when down gil; loop 1; any; end; stop; end; end; any;", 6);
            ok("any;".repeat(30), 30);
        });
        CHECK.sentence("STEP: each TOKEN where it stands, or FAULT 2", () -> {
            each("day 1 ;");
            each("bring 1 ;");
            each("crisis law 1 ;");
            each("turn gil law ;");
            each("any ;");
            each("stop ;");
            each("when down gil ; end ;");
            each("when settled law ; end ;");
            each("when high gil < 1 ; end ;");
            each("when high gil > 1 ; end ;");
            each("when high gil = 1 ; end ;");
            each("loop 1 ; end ;");
        });
        CHECK.sentence("YEARS are ... of such TOKENS", () -> {
            ok("day1;bring0;crisis law1;when high gil<3;end;loop2;end;", 5);
            ok("\n day\n1\n;\n", 1);
            fault("day\t1;", 1, 3);
            fault("day *00001;", 1);
            fault("crisis *abcdefghi 1;", 2);
            fault("*Any;", 1);
        });
        CHECK.sentence("STEP: of those alone", () -> {
            for (String word : new String[] {"odds", "matter", "pace", "clear", "hold", "by", "sitter", "mile", "tall", "for", "weight", "news", "size",
                "down", "settled", "high", "end", "gil", "law", "anyx", "an", "7", ";", "<"}) {
                fault("*" + word + " 1;", 2);
                fault("any; *" + word + " 1;", 2);
            }
        });
    }

    /** Cuts a STEP behind each of its tokens, and puts what can't stand there in the place of each. */
    private static void each(String step) {
        String[] tokens = step.split(" ");
        StringBuilder sofar = new StringBuilder("any; ");
        for (int i = 0; i < tokens.length; i++) {
            String behind = String.join(" ", new ArrayList<>(List.of(tokens)).subList(i + 1, tokens.length));
            boolean stepMayStand = tokens[i].equals("end");
            fault(sofar + "odds " + behind, 2, sofar.length());
            fault(sofar + "abcdefghi " + behind, 2, sofar.length());
            fault(sofar + "12345 " + behind, 1, sofar.length());
            fault(sofar + "! " + behind, 1, sofar.length());
            if (!tokens[i].equals(";")) {
                fault(sofar + ";", 2, sofar.length());
                fault(sofar + (Character.isDigit(tokens[i].charAt(0)) ? "law" : "7"), 2, sofar.length());
            }
            if (!stepMayStand) {
                fault(sofar + "end " + behind, 2, sofar.length());
            }
            sofar.append(tokens[i]);
            if (i < tokens.length - 1) {
                fault(sofar.toString(), 2, sofar.length());
                fault(sofar + "\n ", 2, sofar.length() + 2);
            } else {
                ok(sofar.toString(), 2);
            }
            sofar.append(' ');
        }
    }

    private static void faultTwo() {
        CHECK.sentence("FAULT 2: (an end without a beginning", () -> {
            fault("*end;", 2);
            fault("any; *end;", 2);
            fault("loop 1; end; *end;", 2);
            fault("loop 1; when down gil; end; end; *end;", 2);
        });
        CHECK.sentence("FAULT 2: an end whose beginning is in a text ahead", () -> {
            MossSeats x = CHECK.with(Check.WOOD);
            Check.years(x, "loop 1; loop 1; go");
            CHECK.due("years", Check.years(x, "end;"), -1);
            CHECK.due("FAULT", x.fault(0), 2);
            CHECK.due("place", x.fault(1), 0);
            Check.years(x, "loop 1; loop 1;");
            CHECK.good("three deep", x, Check.years(x, "loop 1; loop 1; loop 1; end; end; end;"), 3);
        });
        CHECK.sentence("FAULT 2: the text's end ahead of an end: 2)", () -> {
            fault("loop 1;", 2);
            fault("loop 1; any;  ", 2);
            fault("when down gil; loop 1; end;", 2);
            fault("loop 1; loop 1; loop 1; end; end;", 2);
            fault("loop 1; end", 2);
        });
        CHECK.sentence("FAULT 2: COMPARES: < or > or =", () -> {
            fault("when high gil *; end;", 2);
            fault("when high gil *3; end;", 2);
            fault("when high gil < *= 3; end;", 2);
            fault("when down gil *< 3; end;", 2);
            fault("when settled law *= 3; end;", 2);
        });
        CHECK.sentence("YEARS: FAULTS, the first along the text, of one TOKEN the least kind", () -> {
            fault("day *41; ?", 4);
            fault("crisis *gil ?", 3);
            fault("any;".repeat(30) + "*any ?", 6);
            fault("any;".repeat(27) + "loop 1; loop 1; loop 1; *loop 1; end; end; end; end;", 6);
            fault("any;".repeat(26) + "loop 1; loop 1; loop 1; *loop 1; end; end; end; end;", 7);
            fault("day *12345;", 1);
        });
    }

    private static void faultsThreeAndFour() {
        CHECK.sentence("FAULT 3: a NAME that is no such one (a SITTER behind turn, down, high", () -> {
            for (String name : new String[] {"law", "nobody", "gi", "gill"}) {
                fault("turn *" + name + " law;", 3);
                fault("when down *" + name + "; end;", 3);
                fault("when high *" + name + " < 3; end;", 3);
            }
        });
        CHECK.sentence("FAULT 3: else a MATTER)", () -> {
            for (String name : new String[] {"gil", "nothing", "la", "laws"}) {
                fault("crisis *" + name + " 1;", 3);
                fault("turn gil *" + name + ";", 3);
                fault("when settled *" + name + "; end;", 3);
            }
        });
        CHECK.sentence("FAULT 3: who sat down later has no NAME", () -> {
            MossSeats x = CHECK.with("matter a pace 1;");
            x.sit(0, 1, 0);
            CHECK.due("years", Check.years(x, "when down a; end;"), -1);
            CHECK.due("FAULT", x.fault(0), 3);
        });
        CHECK.sentence("FAULT 4: a NUMBER that can't be, day (1 to 40)", () -> bounds("day ", ";", 1, 40));
        CHECK.sentence("FAULT 4: bring (0 to 7)", () -> bounds("bring ", ";", 0, 7));
        CHECK.sentence("FAULT 4: crisis (1 to 100)", () -> bounds("crisis law ", ";", 1, 100));
        CHECK.sentence("FAULT 4: high: HEIGHT against 0 to 99", () -> {
            bounds("when high gil < ", "; end;", 0, 99);
            bounds("when high gil > ", "; end;", 0, 99);
            bounds("when high gil = ", "; end;", 0, 99);
        });
        CHECK.sentence("FAULT 4: loop n (1 to 99)", () -> bounds("loop ", "; end;", 1, 99));
    }

    private static void bounds(String ahead, String behind, int least, int most) {
        ok(ahead + least + behind, 1);
        ok(ahead + most + behind, 1);
        fault(ahead + (most + 1) + behind, 4, ahead.length());
        fault(ahead + 9999 + behind, 4, ahead.length());
        if (least > 0) {
            fault(ahead + 0 + behind, 4, ahead.length());
        }
    }

    private static void faultsSixAndSeven() {
        CHECK.sentence("FAULT 6: a 31st STEP (at its WORD", () -> {
            for (String step : new String[] {"day 1;", "bring 1;", "crisis law 1;", "turn gil law;", "any;", "when down gil; end;", "loop 1; end;", "stop;"}) {
                ok("any;".repeat(29) + step, 30);
                fault("any;".repeat(30) + "*" + step, 6);
            }
            fault("any;".repeat(30) + "*stop", 6);
        });
        CHECK.sentence("FAULT 6: end is none)", () -> {
            ok("any;".repeat(29) + "loop 1; end;", 30);
            ok("loop 1;end;".repeat(27), 27);
            ok("loop 1;" + "any;".repeat(29) + "end;", 30);
            fault("loop 1;" + "any;".repeat(29) + "*any; end;", 6);
        });
        CHECK.sentence("FAULT 7: a when, loop within three others (at its WORD)", () -> {
            String[] open = {"loop 1; ", "when down gil; "};
            for (int kinds = 0; kinds < 16; kinds++) {
                String three = open[kinds & 1] + open[kinds >> 1 & 1] + open[kinds >> 2 & 1];
                ok(three + "any; end; end; end;", 4);
                fault(three + "*" + open[kinds >> 3] + "end; end; end; end;", 7);
                fault(three + "end; " + open[kinds >> 3] + "any; *" + open[kinds >> 3] + "end; end; end; end;", 7);
            }
        });
        CHECK.sentence("FAULT 7: no others but those that it stands in", () -> {
            ok("loop 1; loop 1; loop 1; end; end; end; loop 1; loop 1; loop 1; end; end; end;", 6);
            ok("loop 1; loop 1; loop 1; end; loop 1; end; end; loop 1; end; end;", 5);
        });
    }

    private static MossSeats late(String wood, int day, String years) {
        MossSeats x = with(wood, years);
        for (int left = day; left > 0; left -= 999) {
            x.day(Math.min(999, left));
        }
        CHECK.due("the DAY that it is", x.many(5), day);
        return x;
    }

    private static void days() {
        CHECK.sentence("day: so many (1 to 40)", () -> {
            MossSeats x = with("matter a pace 1;", "day 1;");
            lives("1", x, 0, 1, 0, 1, 0, 0, 0);
            Check.years(x, "day 40;");
            lives("40", x, 0, 1, 0, 40, 0, 0, 0);
            CHECK.good("the DAY", x, x.many(5), 41);
            CHECK.good("CLEAR", x, x.matter(0, 0), 41);
        });
        CHECK.sentence("MISSED: DAYS beyond 9,999", () -> {
            lives("to it", late(LATE, 9959, "day 40;"), 0, 1, 0, 40, 0, 0, 0);
            lives("beyond it", late(LATE, 9960, "day 40;"), 0, 1, 1, 0, 0, 0, 0);
            lives("one", late(LATE, 9999, "day 1;"), 0, 1, 1, 0, 0, 0, 0);
        });
        CHECK.sentence("MISSED: (as a whole", () -> {
            MossSeats x = late("matter a pace 1;", 9990, "day 10; day 9; day 1;");
            x.crisis(0, 100);
            lives("10 of 9", x, 0, 3, 2, 9, 0, 0, 0);
            CHECK.good("the DAY", x, x.many(5), 9999);
            CHECK.good("CLEAR by 9", x, x.matter(0, 0), 9);
        });
    }

    private static void bringCrisisTurn() {
        String wood = "matter a pace 0; matter b pace 0 clear 100; sitter s mile 0 tall 9 for a; " + "news a size 1;".repeat(7) + "news a size 93;";
        CHECK.sentence("bring: a NEWS (0 to 7)", () -> {
            MossSeats x = with(wood, "bring 0; bring 7;");
            lives("the first, the last", x, 0, 2, 0, 0, 2, 0, 0);
            CHECK.good("CAME", x, x.many(9), 129);
        });
        CHECK.sentence("MISSED: a bring of a NEWS that there is not", () -> {
            lives("one of none", with("matter a pace 0;", "bring 0; bring 7;"), 0, 2, 2, 0, 0, 0, 0);
            lives("the next one", with("matter a pace 0; news a size 1;", "bring 1; bring 0;"), 0, 2, 1, 0, 1, 0, 0);
        });
        CHECK.sentence("MISSED: that CAME", () -> {
            MossSeats x = with("matter a pace 0; news a size 1;", "bring 0; bring 0;");
            lives("twice", x, 0, 2, 1, 0, 1, 0, 0);
            CHECK.good("CLEAR", x, x.matter(0, 0), 1);
        });
        CHECK.sentence("MISSED: of a MATTER that is SETTLED", () -> {
            MossSeats x = with("matter a pace 0 clear 99; news a size 1; news a size 1;", "bring 0; bring 1; crisis a 1; bring 1;");
            lives("99 can be, 100 can't", x, 0, 4, 1, 0, 2, 1, 0);
        });
        CHECK.sentence("crisis: by so much (1 to 100)", () -> {
            MossSeats x = with("matter a pace 0 clear 100; matter b pace 0 clear 100;", "crisis a 1; crisis b 100;");
            lives("both", x, 0, 2, 0, 0, 0, 2, 0);
            CHECK.good("by 1", x, x.matter(0, 0), 99);
            CHECK.good("by 100", x, x.matter(1, 0), 0);
        });
        CHECK.sentence("MISSED: a crisis of what is CLEAR by 0", () -> {
            MossSeats x = with("matter a pace 0 clear 1; matter b pace 0;", "crisis a 9; crisis a 9; crisis b 1;");
            lives("1 can be, 0 can't", x, 0, 3, 2, 0, 0, 1, 0);
        });
        CHECK.sentence("MISSED: a turn to what he sits FOR", () -> {
            MossSeats x = with(wood, "turn s a; turn s b; turn s b; turn s a;");
            lives("two of four", x, 0, 4, 2, 0, 0, 0, 0);
            CHECK.good("he sits FOR", x, x.sitter(0, 2), 0);
        });
    }

    private static void when(String test, boolean isSo) {
        MossSeats x = with("matter a pace 0 clear 99; matter b pace 0 clear 100; matter c pace 0; sitter s mile 0 tall 99 for a; sitter t mile 0 tall 1 for c;"
            + "sitter u mile 0 tall 99 for c; sitter v mile 0 tall 50 for c;", "when " + test + "; day 1; end; day 2;");
        lives(test, x, 0, isSo ? 3 : 2, 0, isSo ? 3 : 2, 0, 0, 0);
    }

    private static void tests() {
        CHECK.sentence("TEST: down NAME", () -> {
            when("down s", true);
            when("down t", false);
            when("down u", false);
        });
        CHECK.sentence("TEST: settled NAME", () -> {
            when("settled a", false);
            when("settled b", true);
            when("settled c", false);
        });
        CHECK.sentence("TEST: high NAME < NUMBER", () -> {
            when("high v < 49", false);
            when("high v < 50", false);
            when("high v < 51", true);
            when("high s < 0", false);
            when("high s < 1", true);
            when("high u < 99", false);
        });
        CHECK.sentence("TEST: high NAME > NUMBER", () -> {
            when("high v > 49", true);
            when("high v > 50", false);
            when("high v > 51", false);
            when("high s > 0", false);
            when("high t > 0", true);
            when("high u > 98", true);
            when("high u > 99", false);
        });
        CHECK.sentence("TEST: high NAME = NUMBER", () -> {
            when("high v = 49", false);
            when("high v = 50", true);
            when("high v = 51", false);
            when("high s = 0", true);
            when("high t = 0", false);
            when("high u = 99", true);
        });
        CHECK.sentence("when: {STEP}, none", () -> {
            lives("so", with(Check.WOOD, "when down kit; end; day 1;"), 0, 2, 0, 1, 0, 0, 0);
            lives("not so", with(Check.WOOD, "when down gil; end; day 1;"), 0, 2, 0, 1, 0, 0, 0);
            lives("not so, at the end", with(Check.WOOD, "day 1; when down gil; day 1; end;"), 0, 2, 0, 1, 0, 0, 0);
        });
    }

    /** The draws, told once more. */
    private static final class Draws {
        private long s;

        Draws(int seed) {
            s = seed;
        }

        int by(int n) {
            s = (s * 2971 + 10973) % 65536;
            return (int) (s / 8 % n);
        }
    }

    /** One any by a seed, with ODDS that the second draw is, or isn't, just below; all are CLEAR by 100 without a PACE. */
    private static void oneAny(int seed, int matters) {
        Draws draws = new Draws(seed);
        int which = draws.by(matters);
        int odds = draws.by(16);
        int much = draws.by(50) + 1;
        StringBuilder wood = new StringBuilder();
        for (int m = 0; m < matters; m++) {
            wood.append("matter ").append((char) ('a' + m)).append(" pace 0 clear 100;");
        }
        MossSeats x = with(wood.toString(), "any;");
        x.rule(odds);
        lives("ODDS are not above the draw", x, seed, 1, 0, 1, 0, 0, 0);
        x.rule(odds + 1);
        lives("ODDS are above the draw", x, seed, 1, 0, 0, 0, 1, 0);
        for (int m = 0; m < matters; m++) {
            CHECK.good("seed " + seed + ", MATTER " + m, x, x.matter(m, 0), m == which ? 100 - much : 100);
        }
    }

    private static int seedWhere(int matters, int which, int odds, int much) {
        for (int seed = 0; seed <= 9999; seed++) {
            Draws draws = new Draws(seed);
            int m = draws.by(matters);
            int o = draws.by(16);
            int c = draws.by(50) + 1;
            if ((which < 0 || which == m) && (odds < 0 || odds == o) && (much < 0 || much == c)) {
                return seed;
            }
        }
        CHECK.due("a seed for a test", false, true);
        return 0;
    }

    private static void any() {
        CHECK.sentence("any: a MATTER by a draw by how many there are", () -> {
            for (int matters = 1; matters <= 6; matters++) {
                oneAny(seedWhere(matters, 0, -1, -1), matters);
                oneAny(seedWhere(matters, matters - 1, -1, -1), matters);
            }
        });
        CHECK.sentence("any: a draw by 16 ... if that is below ODDS", () -> {
            for (int odds = 0; odds < 16; odds++) {
                oneAny(seedWhere(3, -1, odds, -1), 3);
            }
        });
        CHECK.sentence("any: by one more draw, by 50, and 1 more", () -> {
            oneAny(seedWhere(3, -1, -1, 1), 3);
            oneAny(seedWhere(3, -1, -1, 2), 3);
            oneAny(seedWhere(3, -1, -1, 49), 3);
            oneAny(seedWhere(3, -1, -1, 50), 3);
        });
        CHECK.sentence("Draws: s, at first the seed, becomes what is left of s times 2,971 and 10,973 by 65,536", () -> {
            for (int seed : new int[] {0, 1, 7, 8, 4096, 5000, 9998, 9999}) {
                oneAny(seed, 6);
                MossSeats x = with(LATE, "loop 40; any; end;");
                manyAnys("seed " + seed, x, seed, 40, 0);
            }
        });
        CHECK.sentence("any: ODDS 0 and 16", () -> {
            MossSeats x = with(LATE, "loop 99; any; end;");
            x.rule(0);
            lives("DAYS alone", x, 5, 100, 0, 99, 0, 0, 0);
            x.rule(16);
            x.live(5);
            CHECK.good("no DAYS", x, x.lived(1), 0);
            CHECK.good("all others", x, x.lived(0) + x.lived(3), 99);
        });
    }

    /** So many anys of the wood LATE, by its ODDS of 8, from a DAY on. */
    private static void manyAnys(String what, MossSeats x, int seed, int times, int day) {
        int[] clear = {90, 50, 5};
        int[] due = new int[5];
        int today = day;
        Draws draws = new Draws(seed);
        for (int i = 0; i < times; i++) {
            int m = draws.by(3);
            if (draws.by(16) < 8) {
                int much = draws.by(50) + 1;
                due[clear[m] > 0 ? 3 : 0]++;
                clear[m] = Math.max(0, clear[m] - much);
            } else if (today < 9999) {
                today++;
                due[1]++;
            } else {
                due[0]++;
            }
        }
        lives(what, x, seed, times + 1, due);
        for (int m = 0; m < 3; m++) {
            CHECK.good(what + ": MATTER " + m, x, x.matter(m, 0), clear[m]);
        }
        CHECK.good(what + ": the DAY", x, x.many(5), today);
    }

    private static void anyMissed() {
        CHECK.sentence("any: (made, whether it can be or not)", () -> {
            for (int seed = 0; seed < 20; seed++) {
                manyAnys("seed " + seed, with(LATE, "loop 20; any; end;"), seed, 20, 0);
            }
        });
        CHECK.sentence("MISSED: a crisis (by any, too) of what is CLEAR by 0", () -> {
            MossSeats x = with("matter a pace 0; matter b pace 0; odds 16;", "loop 9; any; end;");
            lives("all", x, 3, 10, 9, 0, 0, 0, 0);
        });
        CHECK.sentence("MISSED: DAYS beyond 9,999 (... by any, too)", () -> {
            for (int seed = 100; seed < 110; seed++) {
                manyAnys("seed " + seed, late(LATE, 9999, "loop 20; any; end;"), seed, 20, 9999);
                manyAnys("seed " + seed, late(LATE, 9997, "loop 20; any; end;"), seed, 20, 9997);
            }
        });
        CHECK.sentence("MISSED: any without MATTERS", () -> {
            MossSeats x = with("odds 0;", "any; any;");
            lives("two", x, 0, 2, 2, 0, 0, 0, 0);
            CHECK.good("no DAY went by", x, x.many(5), 0);
            x.rule(16);
            lives("by all ODDS", x, 9999, 2, 2, 0, 0, 0, 0);
        });
        CHECK.sentence("any: else a DAY goes by", () -> {
            MossSeats x = with("matter a pace 9; matter b pace 1; hold a by b; odds 0;", "any; any; any;");
            lives("three", x, 0, 3, 0, 3, 0, 0, 0);
            CHECK.good("by its PACE", x, x.matter(1, 0), 3);
            CHECK.good("STUCK", x, x.matter(0, 0), 0);
        });
    }

    private static void loops() {
        CHECK.sentence("loop n (1 to 99): as often", () -> {
            lives("1", with(Check.WOOD, "loop 1; day 1; end;"), 0, 2, 0, 1, 0, 0, 0);
            lives("2", with(Check.WOOD, "loop 2; day 1; end;"), 0, 3, 0, 2, 0, 0, 0);
            lives("99", with(Check.WOOD, "loop 99; day 1; end;"), 0, 100, 0, 99, 0, 0, 0);
        });
        CHECK.sentence("loop: {STEP}, none", () -> {
            lives("empty", with(Check.WOOD, "loop 99; end; day 1;"), 0, 2, 0, 1, 0, 0, 0);
            lives("empty, two deep", with(Check.WOOD, "loop 99; loop 99; end; end; day 1;"), 0, 101, 0, 1, 0, 0, 0);
        });
        CHECK.sentence("(when, loop count as one each time they are come to from ahead", () -> {
            lives("a loop in a loop", with(Check.WOOD, "loop 3; loop 2; end; end;"), 0, 4, 0, 0, 0, 0, 0);
            lives("a when in a loop", with(Check.WOOD, "loop 3; when down gil; day 1; end; end;"), 0, 4, 0, 0, 0, 0, 0);
            lives("three deep", with(Check.WOOD, "loop 2; loop 3; loop 4; day 1; end; end; end;"), 0, 1 + 2 * (1 + 3 * (1 + 4)), 0, 24, 0, 0, 0);
        });
        CHECK.sentence("end does not), be there as many as may", () -> {
            lives("26 of them", with(Check.WOOD, "loop 2;end;".repeat(26) + "day 1;"), 0, 27, 0, 1, 0, 0, 0);
            lives("the last one goes back", with(Check.WOOD, "loop 2;end;".repeat(24) + "loop 9;day 2;end;"), 0, 24 + 1 + 9, 0, 18, 0, 0, 0);
            lives("the last one is gone past", with(Check.WOOD, "loop 1;end;".repeat(23) + "when down gil;day 2;end;day 1;"), 0, 25, 0, 1, 0, 0, 0);
        });
        CHECK.sentence("end does not)", () -> {
            lives("one", with(Check.WOOD, "loop 1; end;"), 0, 1, 0, 0, 0, 0, 0);
            lives("of a when", with(Check.WOOD, "when down kit; end; when down gil; end;"), 0, 2, 0, 0, 0, 0, 0);
        });
        CHECK.sentence("stop", () -> {
            lives("at first", with(Check.WOOD, "stop; day 1;"), 0, 1, 0, 0, 0, 0, 0);
            lives("three deep", with(Check.WOOD, "loop 2; loop 2; when down kit; day 1; stop; end; end; end; day 1;"), 0, 5, 0, 1, 0, 0, 0);
        });
    }

    /** So many STEPS of a DAY each but for the loops, in front of others. */
    private static String hundreds(int steps) {
        int days = steps - 3 - 198;
        return "loop 99;day 1;end;loop 99;day 1;end;loop " + days + ";day 1;end;";
    }

    private static void threeHundred() {
        CHECK.sentence("At most 300 STEPS", () -> {
            lives("299", with(LATE, hundreds(299)), 0, 299, 0, 296, 0, 0, 0);
            lives("300", with(LATE, hundreds(299) + "day 1;"), 0, 300, 0, 297, 0, 0, 0);
            lives("301", with(LATE, hundreds(299) + "day 1; day 1;"), 0, 300, 0, 297, 0, 0, 1);
            lives("many more", with(LATE, "loop 99; loop 99; loop 99; day 1; end; end; end;"), 0, 300, 0, 295, 0, 0, 1);
        });
        CHECK.sentence("At most 300 STEPS: MISSED ones count", () ->
            lives("301", late(LATE, 9999, hundreds(299) + "day 1; day 1;"), 0, 300, 297, 0, 0, 0, 1));
        CHECK.sentence("1 if a STEP was left to be done", () -> {
            for (String left : new String[] {"day 1;", "bring 0;", "crisis a 1;", "any;", "when settled a; end;", "loop 1; end;", "stop;"}) {
                lives("left: " + left, with(LATE, hundreds(299) + "day 1;" + left), 0, 300, 0, 297, 0, 0, 1);
            }
        });
        CHECK.sentence("1 if a STEP was left to be done ..., else 0: an end is none", () -> {
            lives("the 300th in a when", with(LATE + "matter d pace 0 clear 100;", "when settled d; " + hundreds(299) + "end;"), 0, 300, 0, 296, 0, 0, 0);
            lives("the 300th a when that is not so", with(LATE, hundreds(299) + "when settled a; day 1; end;"), 0, 300, 0, 296, 0, 0, 0);
            lives("the 300th an empty when", with(LATE, hundreds(299) + "when settled a; end;"), 0, 300, 0, 296, 0, 0, 0);
            lives("the 300th an empty loop", with(LATE, hundreds(299) + "loop 99; end;"), 0, 300, 0, 296, 0, 0, 0);
            lives("the 300th in the last round of a loop", with(LATE, "loop 1;" + hundreds(299) + "end;"), 0, 300, 0, 296, 0, 0, 0);
            lives("the 300th in the last round but one", with(LATE, "loop 2;" + hundreds(299) + "end;"), 0, 300, 0, 296, 0, 0, 1);
        });
        CHECK.sentence("1 if a STEP was left to be done: by this life, not by one ahead", () -> {
            MossSeats x = with(LATE, "loop 99; loop 99; any; end; end;");
            lives("cut", x, 7, 300);
            CHECK.good("a STEP was left", x, x.lived(4), 1);
            Check.years(x, "when settled a; end; loop 2; end; crisis a 100;");
            x.hear(0, 9);
            lives("not cut, and no loop goes on", x, 7, 3);
            CHECK.good("none was left", x, x.lived(4), 0);
            x.mean(0, 20);
            lives("nor by a mean", x, 7, 3);
        });
        CHECK.sentence("(by the 300 alone, not by stop)", () -> {
            lives("stop", with(LATE, "stop; day 1;"), 0, 1, 0, 0, 0, 0, 0);
            lives("the 299th", with(LATE, hundreds(298) + "stop; day 1;"), 0, 299, 0, 295, 0, 0, 0);
            lives("the 300th", with(LATE, hundreds(299) + "stop; day 1;"), 0, 300, 0, 296, 0, 0, 0);
        });
    }

    private static void seeds() {
        CHECK.sentence("LIVED by a seed (0 to 9,999)", () -> {
            MossSeats x = with(LATE, "any;");
            CHECK.good("0", x, x.live(0), 1);
            CHECK.good("9,999", x, x.live(9999), 1);
        });
        CHECK.sentence("Promise 50: (5", () -> {
            MossSeats x = with(LATE, "any;");
            CHECK.outside(10000, seed -> CHECK.refused("live(" + seed + ")", x, 5, () -> x.live(seed)));
            CHECK.refused("none was lived", x, 8, () -> x.lived(0));
        });
        CHECK.sentence("Promise 50: ; 8: no YEARS)", () -> {
            MossSeats x = CHECK.with(LATE);
            CHECK.refused("live", x, 8, () -> x.live(0));
            CHECK.refused("5 ahead of 8", x, 5, () -> x.live(-1));
            x.years(0);
            CHECK.good("YEARS without STEPS are there", x, x.live(0), 0);
        });
        CHECK.sentence("LIVED: all is as it becomes by it, and stays so", () -> {
            MossSeats x = with("matter a pace 1; matter b pace 0 clear 9; sitter s mile 0 tall 9 for a; news a size 5;", "day 2; bring 0; turn s b; crisis b 4; day 1;");
            lives("all of it", x, 0, 5, 0, 3, 1, 1, 0);
            CHECK.good("the DAY", x, x.many(5), 3);
            CHECK.good("CLEAR", x, x.matter(0, 0) * 10 + x.matter(1, 0), 85);
            CHECK.good("CAME", x, x.many(9), 1);
            CHECK.good("sits FOR", x, x.sitter(0, 2), 1);
            lives("from there on", x, 0, 5, 2, 3, 0, 1, 0);
        });
        CHECK.sentence("Promise 50: how many STEPS were come to, MISSED ones, too", () ->
            lives("all MISSED", with("matter a pace 0;", "bring 0; crisis a 1; bring 7;"), 0, 3, 3, 0, 0, 0, 0));
    }

    private static void lived() {
        CHECK.sentence("Promise 51: (5", () -> {
            MossSeats x = with(LATE, "day 3;");
            CHECK.outside(5, what -> CHECK.refused("ahead of 8: lived(" + what + ")", x, 5, () -> x.lived(what)));
            x.live(0);
            CHECK.outside(5, what -> CHECK.refused("lived(" + what + ")", x, 5, () -> x.lived(what)));
        });
        CHECK.sentence("Promise 51: ; 8: there was none)", () -> {
            MossSeats x = with(LATE, "day 3;");
            for (int what = 0; what <= 4; what++) {
                int which = what;
                CHECK.refused("lived(" + what + ")", x, 8, () -> x.lived(which));
            }
            x.mean(0, 5);
            CHECK.refused("mean is none", x, 8, () -> x.lived(0));
            x.live(10000);
            CHECK.refused("a refused one is none", x, 8, () -> x.lived(0));
        });
        CHECK.sentence("Promise 51: Of live() latest with STATUS 0, whatever came since", () -> {
            MossSeats x = with(LATE, "day 3; bring 0;");
            x.mark();
            x.live(0);
            x.live(-1);
            x.mean(5, 5);
            CHECK.good("refused ones, means", x, x.lived(0) * 10 + x.lived(1), 13);
            x.back();
            CHECK.good("back", x, x.lived(0) * 10 + x.lived(1), 13);
            Check.years(x, "day 1;");
            x.wood(0);
            x.live(0);
            CHECK.good("other YEARS, no YEARS", x, x.lived(0) * 10 + x.lived(1), 13);
            x.years(0);
            x.live(0);
            CHECK.good("the next one", x, x.lived(0) * 10 + x.lived(1), 0);
        });
    }

    private static void mean() {
        CHECK.sentence("Promise 52: by so many seeds (1 to 20) from one on", () -> {
            MossSeats x = with("matter a pace 7; matter b pace 9 clear 50; sitter s mile 0 tall 99 for a; sitter t mile 0 tall 98 for b; odds 9;", "loop 7; any; end;");
            for (int first : new int[] {0, 1234, 9980}) {
                long sum = 0;
                for (int i = 0; i < 20; i++) {
                    x.mark();
                    x.live(first + i);
                    sum += x.sitter(0, 4) + x.sitter(1, 4);
                    x.back();
                    if (i == 0 || i == 1 || i == 18 || i == 19) {
                        CHECK.good("mean(" + first + ", " + (i + 1) + ")", x, x.mean(first, i + 1));
                        CHECK.due("its worth", x.top() * (i + 1), sum * x.bottom());
                    }
                }
            }
        });
        CHECK.sentence("Promise 52: (5: of the seeds", () -> {
            MossSeats x = with(LATE, "any;");
            CHECK.refusedNo("0 seeds", x, 5, () -> x.mean(0, 0));
            CHECK.outside(21, many -> CHECK.refusedNo(many + " seeds", x, 5, () -> x.mean(0, many)));
            CHECK.refusedNo("from -1 on", x, 5, () -> x.mean(-1, 1));
            CHECK.refusedNo("from -1 on, two", x, 5, () -> x.mean(-1, 2));
            CHECK.refusedNo("from 10,000 on", x, 5, () -> x.mean(10000, 1));
            CHECK.refusedNo("from the most on", x, 5, () -> x.mean(Integer.MAX_VALUE, 20));
            CHECK.refusedNo("from the least on", x, 5, () -> x.mean(Integer.MIN_VALUE, 20));
        });
        CHECK.sentence("Promise 52: (5: the last above 9,999, too", () -> {
            MossSeats x = with(LATE, "any;");
            CHECK.good("to 9,999 by 20", x, x.mean(9980, 20));
            CHECK.refusedNo("beyond by 20", x, 5, () -> x.mean(9981, 20));
            CHECK.good("to 9,999 by 1", x, x.mean(9999, 1));
            CHECK.refusedNo("beyond by 2", x, 5, () -> x.mean(9999, 2));
        });
        CHECK.sentence("Promise 52: ; 8)", () -> {
            MossSeats x = CHECK.with(LATE);
            CHECK.refusedNo("no YEARS", x, 8, () -> x.mean(0, 1));
            CHECK.refusedNo("5 ahead of 8", x, 5, () -> x.mean(9999, 2));
            x.years(0);
            CHECK.fraction("YEARS without STEPS", x, x.mean(0, 1), 0, 1);
        });
        CHECK.sentence("Promise 52: (all stays as it is)", () -> {
            MossSeats x = with(Check.WOOD, "day 9; bring 0; turn gil law; crisis tea 9; loop 9; any; end;");
            x.mean(17, 20);
            int[] due = {4, 2, 4, 4, 8, 0, 8, 1, 8, 0};
            for (int what = 0; what <= 9; what++) {
                CHECK.good("many(" + what + ")", x, x.many(what), due[what]);
            }
            CHECK.good("sits FOR", x, x.sitter(0, 2), 0);
            CHECK.good("CLEAR", x, x.matter(3, 0), 100);
        });
    }

    private static void marks() {
        CHECK.sentence("MARKS, at most 3", () -> {
            MossSeats x = new MossSeats();
            for (int i = 1; i <= 3; i++) {
                CHECK.good("mark " + i, x, x.mark(), i);
            }
            CHECK.refused("a fourth", x, 7, x::mark);
            CHECK.good("there are three still", x, x.back(), 2);
            CHECK.good("there is room again", x, x.mark(), 3);
        });
        CHECK.sentence("Promise 53: (7), the third MARK is as it was", () -> {
            MossSeats x = CHECK.with(LATE);
            x.mark();
            x.mark();
            x.mark();
            x.day(5);
            x.mark();
            x.back();
            CHECK.good("the DAY of the third", x, x.many(5), 0);
        });
        CHECK.sentence("Promise 54: (8)", () -> {
            MossSeats x = CHECK.with(LATE);
            CHECK.refused("none at first", x, 8, x::back);
            x.mark();
            CHECK.good("the only one", x, x.back(), 0);
            x.day(5);
            CHECK.refused("none is left", x, 8, x::back);
            CHECK.good("the DAY stays", x, x.many(5), 5);
        });
        CHECK.sentence("all is taken back to the latest MARK, which is gone then", () -> {
            MossSeats x = CHECK.with(LATE);
            for (int i = 1; i <= 3; i++) {
                x.day(i);
                x.mark();
            }
            x.day(10);
            int[] days = {6, 3, 1};
            for (int i = 0; i < 3; i++) {
                CHECK.good("back", x, x.back(), 2 - i);
                CHECK.good("the DAY", x, x.many(5), days[i]);
                x.day(40);
            }
        });
        CHECK.sentence("MARKS: the WOOD with all that became of it", MarkedThings::all);
        CHECK.sentence("MARKS: the YEARS are kept as they are", () -> {
            MossSeats x = CHECK.with(LATE);
            x.mark();
            Check.years(x, "day 1;");
            x.mark();
            Check.years(x, "day 1; day 2;");
            x.back();
            lives("those of the second", x, 0, 1, 0, 1, 0, 0, 0);
            x.back();
            CHECK.refused("none at the first", x, 8, () -> x.live(0));
        });
    }

    /** Each thing that may become of a wood, and is taken back. */
    private static final class MarkedThings {
        private interface Deed {
            void on(MossSeats x);
        }

        private static String seen(MossSeats x) {
            StringBuilder text = new StringBuilder();
            for (int what = 0; what <= 9; what++) {
                text.append(x.many(what)).append(' ');
            }
            for (int m = 0; m < 6; m++) {
                for (int what = 0; what <= 4; what++) {
                    text.append(x.matter(m, what)).append(' ');
                }
            }
            for (int s = 0; s < 7; s++) {
                for (int what = 0; what <= 4; what++) {
                    text.append(x.sitter(s, what)).append(' ');
                }
            }
            for (int i = 0; i < 10; i++) {
                text.append(x.hold(i, 0)).append(x.hold(i, 1)).append(x.news(i, 0)).append(x.news(i, 1)).append(x.news(i, 2)).append(' ');
            }
            return text.toString();
        }

        private static void all() {
            Deed[] deeds = {x -> x.day(1), x -> x.bring(0), x -> x.crisis(3, 100), x -> x.turn(0, 1), x -> x.sit(1, 2, 3), x -> x.hear(1, 1), x -> x.bind(1, 0),
                x -> x.loose(0), x -> x.loose(1), x -> x.hurry(0, 1), x -> x.rule(1), x -> x.wood(0), x -> Check.wood(x, "matter gil pace 9; sitter inn mile 50 tall 60 for gil weight 7;"),
                x -> Check.wood(x, "matter a pace 1;matter b pace 2;matter c pace 3;matter d pace 4;matter e pace 5;matter f pace 6;hold a by f;hold f by e;hold e by d;"
                    + "sitter g mile 9 tall 8 for f weight 7;news f size 9;news e size 8;")};
            for (int i = 0; i < deeds.length; i++) {
                MossSeats x = CHECK.with(Check.WOOD);
                String before = seen(x);
                x.mark();
                deeds[i].on(x);
                CHECK.due("deed " + i + " can be seen", seen(x).equals(before), false);
                x.back();
                CHECK.due("deed " + i + " is taken back", seen(x).equals(before), true);
                CHECK.good("the NAMES are, too", x, Check.years(x, "turn gil inn; crisis law 1; when high kit > 0; end;"), 3);
            }
        }
    }
}
