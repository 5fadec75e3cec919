/** Promises 9 to 18: the tape, WOOD and YEARS as texts with their FAULTS, and what is there. */
public final class TextsTest {
    private static final Check CHECK = new Check("TextsTest");

    public static void main(String[] args) {
        promise9Feed();
        promise10Wood();
        promise10WoodFaults();
        promise10WoodBounds();
        promise10WoodFull();
        promise10NothingLingers();
        promise11Years();
        promise11YearsFaults();
        promise12Fault();
        promise13Many();
        promise14Matter();
        promise15Hold();
        promise16Sitter();
        promise17News();
        promise18CopyHeights();
        CHECK.finish();
    }

    private static void promise9Feed() {
        MossSeats x = new MossSeats();
        for (int i = 1; i <= 45; i++) {
            CHECK.due("feed() " + i, x.feed(0x20202020, 0x0A0A0A0A, 0x20202020, 0x20202020, 0x20202020), 20 * i);
        }
        CHECK.due("feed() beyond 900", x.feed(1, 1, 1, 1, 1), -1);
        CHECK.due("all 900 are blanks", x.wood(900), 0);
        CHECK.due("all 900 are blanks, STATUS", x.status(), 0);
        CHECK.due("the tape is empty then", x.feed(0x6F646473, 0x2031323B, 0x2020203F, 0, 0), 20);
        CHECK.due("the highest byte first", x.wood(8), 0);
        CHECK.due("ODDS as fed", x.many(4), 12);
        Check.feed(x, "odds 12;   ?");
        CHECK.due("a byte behind it", x.wood(12), -1);
        CHECK.due("its place", x.fault(1), 11);
        CHECK.due("a byte above 127", x.feed(0x80FFE961, 0, 0, 0, 0), 20);
        CHECK.due("it is no TOKEN", x.wood(20), -1);
        CHECK.due("it is no TOKEN, FAULT", x.fault(0), 1);
        CHECK.due("it is no TOKEN, place", x.fault(1), 0);
    }

    private static void promise10Wood() {
        MossSeats x = new MossSeats();
        CHECK.due("wood()", Check.wood(x, Check.WOOD), 4);
        CHECK.due("wood() STATUS", x.status(), 0);
        CHECK.due("wood() FAULT", x.fault(0), 0);
        CHECK.due("wood() place", x.fault(1), -1);
        CHECK.refused("the tape is empty then", x, 5, () -> x.wood(1));
        CHECK.due("a WOOD of nothing", x.wood(0), 0);
        CHECK.due("no MATTERS", x.many(0), 0);
        CHECK.due("ODDS without", x.many(4), 4);
        Check.feed(x, "odds 1; odds 2; ");
        CHECK.refused("n beyond the tape", x, 5, () -> x.wood(21));
        CHECK.refused("n of -1", x, 5, () -> x.wood(-1));
        CHECK.due("with 5 the tape stays", x.feed(0, 0, 0, 0, 0), 40);
        CHECK.due("the first n bytes", x.wood(7), 0);
        CHECK.due("ODDS", x.many(4), 1);
        CHECK.refused("the bytes behind n are gone, too", x, 5, () -> x.wood(1));
        cutOff("odds 17;", 6, 2, 6);
        cutOff("odds 12345;", 9, 4, 5);
        cutOff("matter abcdefghi pace 1;", 15, 2, 15);
        cutOff("odds 3; ?", 8, 0, -1);

        MossSeats y = CHECK.with(Check.WOOD);
        Check.years(y, "day 1;");
        y.day(5);
        y.bring(0);
        CHECK.refused("a FAULT", with(y, "odds 3; odds 3;"), 10, () -> y.wood(15) == -1 ? -1 : 0);
        CHECK.due("the old one stays", y.many(2), 4);
        CHECK.due("its DAY stays", y.many(5), 5);
        CHECK.due("its YEARS stay", y.live(0), 1);
        CHECK.refused("with 10 the tape is empty", y, 5, () -> y.years(1));
        CHECK.due("a new one", Check.wood(y, "matter a pace 1; sitter b mile 0 tall 1 for a; news a size 3;"), 1);
        CHECK.due("it is DAY 0", y.many(5), 0);
        CHECK.due("no NEWS CAME", y.many(9), 0);
        CHECK.due("ODDS are 4 again", y.many(4), 4);
        CHECK.due("no HOLDS are left", y.many(1), 0);
        CHECK.refused("there are no YEARS", y, 8, () -> y.live(0));
    }

    /** A WOOD of the first n bytes alone; a TOKEN that goes on behind them ends with them. */
    private static void cutOff(String text, int n, int fault, int place) {
        MossSeats x = new MossSeats();
        Check.feed(x, text);
        x.wood(n);
        CHECK.due("FAULT of the first " + n + " of: " + text, x.fault(0), fault);
        CHECK.due("its place of the first " + n + " of: " + text, x.fault(1), place);
    }

    /** Tells a text that has a FAULT, so that the fault stands there before a refused call is compared. */
    private static MossSeats with(MossSeats x, String text) {
        Check.wood(x, text);
        Check.feed(x, text);
        return x;
    }

    private static void woodFault(String text, int fault, int place) {
        MossSeats x = new MossSeats();
        x.rule(7);
        CHECK.due("wood of: " + text, Check.wood(x, text), -1);
        CHECK.due("STATUS of: " + text, x.status(), 10);
        CHECK.due("FAULT of: " + text, x.fault(0), fault);
        CHECK.due("its place of: " + text, x.fault(1), place < 0 ? text.length() : place);
        CHECK.due("no MATTERS by: " + text, x.many(0), 0);
        CHECK.due("no ODDS by: " + text, x.many(4), 7);
    }

    private static void promise10WoodFaults() {
        final int end = -1;
        woodFault("?", 1, 0);
        woodFault("  Odds", 1, 2);
        woodFault("odds\t1;", 1, 4);
        woodFault("odds 12345;", 1, 5);
        woodFault("odds 00001;", 1, 5);
        woodFault("matter a pace 99999", 1, 14);
        woodFault("12345", 1, 0);
        woodFault("odds 3; {", 1, 8);
        woodFault("a ?", 2, 0);
        woodFault("1234 ?", 2, 0);
        woodFault(";", 2, 0);
        woodFault("odds", 2, end);
        woodFault("odds  \n ", 2, end);
        woodFault("odds 3", 2, end);
        woodFault("odds 3 4;", 2, 7);
        woodFault("odds x;", 2, 5);
        woodFault("odds 3;;", 2, 7);
        woodFault("odds < 3;", 2, 5);
        woodFault("day 1;", 2, 0);
        woodFault("matter;", 2, 6);
        woodFault("matter 1 pace 1;", 2, 7);
        woodFault("matter abcdefghi pace 1;", 2, 7);
        woodFault("abcdefghijklmnopqrstuvwxyz", 2, 0);
        for (String word : new String[] {"odds", "matter", "pace", "clear", "hold", "by", "sitter", "mile", "tall", "for", "weight",
            "news", "size", "day", "bring", "crisis", "turn", "any", "when", "down", "settled", "high", "loop", "end", "stop"}) {
            woodFault("matter " + word + " pace 1;", 2, 7);
        }
        woodFault("matter a size 1;", 2, 9);
        woodFault("matter a pace;", 2, 13);
        woodFault("matter a pace 1 clear;", 2, 21);
        woodFault("matter a pace 1 clear 1 clear 1;", 2, 24);
        woodFault("matter a pace 1 weight 1;", 2, 16);
        woodFault("matter a pace 1; hold a for a;", 2, 24);
        woodFault("matter a pace 1; sitter b tall 1;", 2, 26);
        woodFault("matter a pace 1; sitter b mile 1 for a;", 2, 33);
        woodFault("matter a pace 1; sitter b mile 1 tall 1 weight 1;", 2, 40);
        woodFault("matter a pace 1; sitter b mile 1 tall 1 for 3;", 2, 44);
        woodFault("matter a pace 1; news a 3;", 2, 24);
        woodFault("matter a pace 1; matter a", 3, 24);
        woodFault("matter a pace 1; sitter a mile 1 tall 1 for a;", 3, 24);
        woodFault("matter a pace 1; sitter b mile 1 tall 1 for a; matter b pace 1;", 3, 54);
        woodFault("matter a pace 1; sitter b mile 1 tall 1 for a; sitter b mile", 3, 54);
        woodFault("hold a by", 3, 5);
        woodFault("matter a pace 1; hold a by b;", 3, 27);
        woodFault("matter a pace 1; sitter b mile 1 tall 1 for b;", 3, 44);
        woodFault("matter a pace 1; sitter b mile 1 tall 1 for a; news b size 1;", 3, 52);
        woodFault("news a size 1; matter a pace 1;", 3, 5);
        woodFault("odds 3; odds x;", 5, 8);
        woodFault("odds 3; matter a pace 1; odds 3;", 5, 25);
        woodFault("matter a pace 1; hold a by a;", 5, 27);
        woodFault("matter a pace 1; matter b pace 1; hold a by b; hold b by a; hold a by b;", 5, 70);
    }

    private static void promise10WoodBounds() {
        String[] ahead = {"odds ", "matter a pace ", "matter a pace 1 clear ", "matter a pace 1; sitter b mile ",
            "matter a pace 1; sitter b mile 1 tall ", "matter a pace 1; sitter b mile 1 tall 1 for a weight ", "matter a pace 1; news a size "};
        String[] behind = {";", ";", ";", " tall 1 for a;", " for a;", ";", ";"};
        int[] least = {0, 0, 0, 0, 1, 1, 1};
        int[] most = {16, 20, 100, 59, 99, 9, 100};
        for (int i = 0; i < ahead.length; i++) {
            for (int n : new int[] {least[i], most[i]}) {
                MossSeats x = new MossSeats();
                Check.wood(x, ahead[i] + n + behind[i]);
                CHECK.due("it can be: " + ahead[i] + n, x.status(), 0);
            }
            woodFault(ahead[i] + (most[i] + 1) + behind[i], 4, ahead[i].length());
            woodFault(ahead[i] + 9999 + behind[i], 4, ahead[i].length());
            if (least[i] > 0) {
                woodFault(ahead[i] + "000" + behind[i], 4, ahead[i].length());
            }
        }
        MossSeats x = CHECK.with("odds8;matter a pace0012clear0100;\n\nmatter\nabcdefgh pace 3;hold a by abcdefgh;");
        CHECK.due("without blanks: ODDS", x.many(4), 8);
        CHECK.due("without blanks: PACE", x.matter(0, 1), 12);
        CHECK.due("without blanks: CLEAR", x.matter(0, 0), 100);
        CHECK.due("a NAME of 8 letters", x.matter(1, 1), 3);
        CHECK.due("CLEAR without", x.matter(1, 0), 0);
        MossSeats y = CHECK.with("matter ab pace 1; matter ba pace 2; matter abcdefgh pace 3; matter abcdefgg pace 4; matter bcdefgh pace 5;"
            + "news ba size 1; news abcdefgg size 1; news bcdefgh size 1;");
        CHECK.due("NAMES are told apart", y.news(0, 0) * 100 + y.news(1, 0) * 10 + y.news(2, 0), 134);
        MossSeats z = CHECK.with("matter x pace 1; odds 3; sitter oddsx mile 1 tall 1 for x; matter endy pace 0;");
        CHECK.due("odds behind other PARTS", z.many(4), 3);
    }

    private static void promise10WoodFull() {
        StringBuilder text = new StringBuilder();
        for (char c = 'a'; c <= 'f'; c++) {
            text.append("matter ").append(c).append(" pace 1;");
        }
        woodFault(text + "matter a pace", 6, text.length());
        woodFault(text + "matter ?", 6, text.length());
        String holds = "matter a pace 1;matter b pace 1;matter c pace 1;matter d pace 1;matter e pace 1;matter f pace 1;"
            + "hold a by b;hold a by c;hold a by d;hold a by e;hold a by f;hold b by a;hold b by c;hold b by d;hold b by e;hold b by f;";
        CHECK.due("ten HOLDS", CHECK.with(holds).many(1), 10);
        woodFault(holds + " hold a by a;", 6, holds.length() + 1);
        StringBuilder sitters = new StringBuilder("matter m pace 1;");
        for (char c = 'a'; c <= 'g'; c++) {
            sitters.append("sitter ").append(c).append(" mile 1 tall 1 for m;");
        }
        CHECK.due("seven SITTERS", CHECK.with(sitters.toString()).many(2), 7);
        woodFault(sitters + "sitter a", 6, sitters.length());
        StringBuilder news = new StringBuilder("matter m pace 1;");
        for (int i = 1; i <= 8; i++) {
            news.append("news m size ").append(i).append(';');
        }
        CHECK.due("eight NEWS", CHECK.with(news.toString()).many(3), 8);
        woodFault(news + "news n", 6, news.length());
        StringBuilder long900 = new StringBuilder(Check.WOOD);
        while (long900.length() < 899) {
            long900.append('\n');
        }
        CHECK.due("900 bytes", CHECK.with(long900 + " ").many(2), 4);
        CHECK.due("a fault at the end of 900 bytes", Check.wood(CHECK.with(""), long900 + "!"), -1);
    }

    /** What an older wood had, its next thing of each kind above all, is gone with it. */
    private static void promise10NothingLingers() {
        String few = "odds 8; matter inn pace 10 clear 20; matter law pace 0 clear 60; matter tax pace 15; hold inn by law;"
            + "sitter gil mile 5 tall 50 for inn; sitter ida mile 20 tall 9 for law weight 3; news tax size 1;";
        MossSeats x = CHECK.with(Check.WOOD);
        Check.years(x, "day 5; bring 0; bring 2;");
        x.mean(0, 1);
        CHECK.due("a smaller WOOD", Check.wood(x, few), 2);
        long[] due = {3, 1, 2, 1, 8, 0, 0, 1, 0, 0};
        for (int what = 0; what <= 9; what++) {
            CHECK.due("of the smaller one many(" + what + ")", x.many(what), due[what]);
        }
        CHECK.due("a MATTER of old", Check.years(x, "crisis tea 1;"), -1);
        CHECK.due("a MATTER of old, FAULT", x.fault(0), 3);
        CHECK.due("a SITTER of old", Check.years(x, "when down joe; end;"), -1);
        CHECK.due("a SITTER of old, FAULT", x.fault(0), 3);
        CHECK.fraction("HEIGHTS of old", x, x.share(0), 40, 43);
        CHECK.due("SITTERS of old", x.matter(2, 3), 0);
        CHECK.due("HOLDS of old", x.matter(2, 2), 0);
        CHECK.due("NEWS of old", x.game(1, 0, 4), 37);
        CHECK.due("those who wait of old", x.round(5), 15);
        CHECK.due("a HOLD of old, anew", x.bind(2, 1), 1);
        x.loose(1);
        CHECK.due("the same HOLD anew", x.bind(2, 1), 1);
        CHECK.due("the old NAMES are free", Check.wood(x, "matter gil pace 1; matter kit pace 1; sitter inn mile 0 tall 1 for kit;"), 1);
    }

    private static void promise11Years() {
        MossSeats x = CHECK.with(Check.WOOD);
        CHECK.due("years()", Check.years(x, "any; when down gil; loop 2; stop; end; end; day 40;"), 5);
        CHECK.due("years() STATUS", x.status(), 0);
        CHECK.due("no STEPS", x.years(0), 0);
        CHECK.due("YEARS without STEPS are there", x.live(0), 0);
        CHECK.due("live() of no STEPS", x.status(), 0);
        Check.feed(x, "stop;" + " ".repeat(296));
        CHECK.refused("n above 300", x, 5, () -> x.years(301));
        CHECK.due("with 5 the tape stays: 300 bytes", x.years(300), 1);
        CHECK.refused("the tape is empty then", x, 5, () -> x.years(1));
        CHECK.refused("n of -1", x, 5, () -> x.years(-1));
        CHECK.due("a FAULT", Check.years(x, "stop"), -1);
        CHECK.due("a FAULT, STATUS", x.status(), 10);
        CHECK.due("the old ones stay", x.live(0), 1);
        CHECK.refused("with 10 the tape is empty", x, 5, () -> x.wood(1));
        CHECK.due("30 STEPS", Check.years(x, "any;".repeat(29) + "loop 1;end;"), 30);
        Check.years(x, "loop 1; loop 1; go");
        CHECK.due("what a FAULT left open is open no more", Check.years(x, "end;"), -1);
        CHECK.due("FAULT of the end", x.fault(1), 0);
        CHECK.due("three deep behind it", Check.years(x, "loop 1; loop 1; loop 1; end; end; end;"), 3);
        x.sit(1, 1, 0);
        CHECK.due("who sat down later has no NAME", Check.years(x, "when down a; end;"), -1);
        CHECK.due("that FAULT", x.fault(0), 3);
    }

    private static void yearsFault(String text, int fault, int place) {
        MossSeats x = CHECK.with(Check.WOOD);
        CHECK.due("years of: " + text, Check.years(x, text), -1);
        CHECK.due("STATUS of: " + text, x.status(), 10);
        CHECK.due("FAULT of: " + text, x.fault(0), fault);
        CHECK.due("its place of: " + text, x.fault(1), place < 0 ? text.length() : place);
        CHECK.refused("no YEARS by: " + text, x, 8, () -> x.live(0));
    }

    private static void promise11YearsFaults() {
        final int end = -1;
        yearsFault("!", 1, 0);
        yearsFault("day 10000;", 1, 4);
        yearsFault("go;", 2, 0);
        yearsFault("news 1;", 2, 0);
        yearsFault("down gil;", 2, 0);
        yearsFault("settled law;", 2, 0);
        yearsFault("5;", 2, 0);
        yearsFault("end;", 2, 0);
        yearsFault("loop 1; end; end;", 2, 13);
        yearsFault("any", 2, end);
        yearsFault("any 1;", 2, 4);
        yearsFault("day;", 2, 3);
        yearsFault("bring law;", 2, 6);
        yearsFault("crisis 3 law;", 2, 7);
        yearsFault("crisis law;", 2, 10);
        yearsFault("crisis abcdefghi 1;", 2, 7);
        yearsFault("turn gil;", 2, 8);
        yearsFault("when gil;", 2, 5);
        yearsFault("when down;", 2, 9);
        yearsFault("when down; end;", 2, 9);
        yearsFault("when settled; end;", 2, 12);
        yearsFault("when high < 3; end;", 2, 10);
        yearsFault("turn law;", 3, 5);
        yearsFault("turn; any;", 2, 4);
        yearsFault("crisis; any;", 2, 6);
        yearsFault("when high gil 1;", 2, 14);
        yearsFault("when high gil ; 1;", 2, 14);
        yearsFault("when high gil < ;", 2, 16);
        yearsFault("when high gil > = 1;", 2, 16);
        yearsFault("when down gil > 1;", 2, 14);
        yearsFault("loop 2; day 1;", 2, end);
        yearsFault("loop 2; day 1; ", 2, end);
        yearsFault("loop 2; day 1; end", 2, end);
        yearsFault("loop 2; loop 2; end;", 2, end);
        yearsFault("loop 2; loop 2; end;?", 1, 20);
        yearsFault("crisis gil 1;", 3, 7);
        yearsFault("crisis who 1;", 3, 7);
        yearsFault("turn law law;", 3, 5);
        yearsFault("turn gil ida;", 3, 9);
        yearsFault("when down law; end;", 3, 10);
        yearsFault("when settled ida; end;", 3, 13);
        yearsFault("when high law > 1; end;", 3, 10);
        yearsFault("day 0;", 4, 4);
        yearsFault("day 41;", 4, 4);
        yearsFault("bring 8;", 4, 6);
        yearsFault("crisis law 0;", 4, 11);
        yearsFault("crisis law 101;", 4, 11);
        yearsFault("when high gil = 100; end;", 4, 16);
        yearsFault("loop 0; end;", 4, 5);
        yearsFault("loop 100; end;", 4, 5);
        yearsFault("any;".repeat(30) + "any;", 6, 120);
        yearsFault("any;".repeat(28) + "loop 1; stop; end; any;", 6, 131);
        yearsFault("any;".repeat(27) + "loop 1; loop 1; loop 1; loop 1;", 6, 132);
        yearsFault("any;".repeat(30) + "go;", 2, 120);
        yearsFault("loop 1; when down gil; loop 1; when down gil;", 7, 31);
        yearsFault("loop 1; when down gil; loop 1; loop ?", 7, 31);
        MossSeats x = CHECK.with(Check.WOOD);
        CHECK.due("the bounds can be", Check.years(x, "day 1;day 40;bring 0;bring 7;crisis law 1;crisis law 100;loop 1;end;loop 99;end;"
            + "when high gil < 0;end;when high gil = 99;end;"), 10);
        CHECK.due("three deep, twice", Check.years(x, "loop 1;loop 1;loop 1;end;loop 1;end;end;loop 1;loop 1;end;end;end;"), 6);
        CHECK.due("empty when three deep", Check.years(x, "when down gil;when settled law;when high gil>0;stop;end;end;end;"), 4);
    }

    private static void promise12Fault() {
        MossSeats x = new MossSeats();
        CHECK.due("ahead of any", x.fault(0), -1);
        x.wood(5);
        CHECK.due("STATUS 5 tells none", x.fault(0), -1);
        x.wood(0);
        CHECK.due("without one", x.fault(0), 0);
        CHECK.due("its place", x.fault(1), -1);
        CHECK.due("fault(2)", x.fault(2), -1);
        CHECK.due("fault(-1)", x.fault(-1), -1);
        Check.years(x, "stop; go;");
        CHECK.due("of years()", x.fault(0), 2);
        CHECK.due("of years(), place", x.fault(1), 6);
        x.years(9);
        x.wood(-1);
        x.many(99);
        CHECK.due("5 and other calls leave it", x.fault(0), 2);
        CHECK.due("5 and other calls leave its place", x.fault(1), 6);
        CHECK.due("fault(0) has no STATUS", x.status(), 5);
        Check.wood(x, "matter a pace 21;");
        CHECK.due("of wood()", x.fault(0), 4);
        CHECK.due("of wood(), place", x.fault(1), 14);
        x.mark();
        x.back();
        CHECK.due("back() leaves it", x.fault(0), 4);
        x.years(0);
        CHECK.due("a good one", x.fault(0), 0);
        CHECK.due("a good one, place", x.fault(1), -1);
    }

    private static void promise13Many() {
        MossSeats x = CHECK.with(Check.WOOD);
        long[] due = {4, 2, 4, 4, 8, 0, 8, 1, 8, 0};
        for (int what = 0; what <= 9; what++) {
            CHECK.due("many(" + what + ")", x.many(what), due[what]);
            CHECK.due("many(" + what + ") STATUS", x.status(), 0);
        }
        CHECK.refused("many(10)", x, 5, () -> x.many(10));
        CHECK.refused("many(-1)", x, 5, () -> x.many(-1));
        x.bring(1);
        x.bring(3);
        x.day(4);
        CHECK.due("NEWS that CAME", x.many(9), 10);
        CHECK.due("SETTLED", x.many(6), 12);
        CHECK.due("DOWN", x.many(8), 12);
        CHECK.due("the DAY", x.many(5), 4);
        x.crisis(3, 1);
        CHECK.due("SETTLED no more", x.many(6), 4);
        CHECK.due("a SETTLED one isn't STUCK", x.many(7), 1);
        x.crisis(2, 1);
        CHECK.due("STUCK by what is not SETTLED", x.many(7), 5);
        CHECK.due("3 times 1 by 100 is DOWN", x.many(8), 12);
        MossSeats y = CHECK.with("matter a pace 1 clear 100; matter b pace 1 clear 99; hold a by b; hold b by a;");
        CHECK.due("the first MATTER is SETTLED", y.many(6), 1);
        CHECK.due("STUCK by no SETTLED one, nor a SETTLED one", y.many(7), 0);
        y.crisis(0, 1);
        CHECK.due("each is STUCK by the other one", y.many(7), 3);
        y.day(9);
        CHECK.due("and stays so", y.matter(0, 0) + y.matter(1, 0), 198);
    }

    private static void promise14Matter() {
        MossSeats x = CHECK.with(Check.WOOD);
        CHECK.due("CLEAR", x.matter(1, 0), 60);
        CHECK.due("PACE", x.matter(2, 1), 15);
        CHECK.due("HELD by", x.matter(0, 2), 2);
        CHECK.due("HELD by a SETTLED one", x.matter(2, 2), 8);
        CHECK.due("HELD by none", x.matter(1, 2), 0);
        x.bind(0, 2);
        CHECK.due("HELD by two", x.matter(0, 2), 6);
        CHECK.due("who sit FOR it", x.matter(2, 3), 4);
        x.turn(0, 2);
        CHECK.due("two who sit FOR it", x.matter(2, 3), 5);
        CHECK.due("none sits FOR it", x.matter(0, 3), 0);
        CHECK.due("LOAD", x.matter(0, 4), 8);
        CHECK.due("LOAD, rounded up", x.matter(2, 4), 7);
        CHECK.due("LOAD of a SETTLED one", x.matter(3, 4), 0);
        CHECK.refused("LOAD that never is", x, 8, () -> x.matter(1, 4));
        x.crisis(1, 1);
        x.hurry(1, 20);
        CHECK.due("LOAD of 41 by 20", x.matter(1, 4), 3);
        x.hurry(1, 1);
        CHECK.due("LOAD of 41 by 1", x.matter(1, 4), 41);
        x.hurry(3, 0);
        x.hurry(1, 0);
        CHECK.due("LOAD of a SETTLED one without a PACE", x.matter(3, 4), 0);
        CHECK.refused("matter(4, 9)", x, 2, () -> x.matter(4, 9));
        CHECK.refused("matter(-1, 0)", x, 2, () -> x.matter(-1, 0));
        CHECK.refused("matter(1, 5)", x, 5, () -> x.matter(1, 5));
        CHECK.refused("matter(0, -1)", x, 5, () -> x.matter(0, -1));
    }

    private static void promise15Hold() {
        MossSeats x = CHECK.with(Check.WOOD);
        CHECK.due("hold(0, 0)", x.hold(0, 0), 0);
        CHECK.due("hold(0, 1)", x.hold(0, 1), 1);
        CHECK.due("hold(1, 0)", x.hold(1, 0), 2);
        CHECK.due("hold(1, 1)", x.hold(1, 1), 3);
        CHECK.refused("hold(2, 9)", x, 2, () -> x.hold(2, 9));
        CHECK.refused("hold(-1, 0)", x, 2, () -> x.hold(-1, 0));
        CHECK.refused("hold(0, 2)", x, 5, () -> x.hold(0, 2));
        CHECK.refused("hold(0, -1)", x, 5, () -> x.hold(0, -1));
    }

    private static void promise16Sitter() {
        MossSeats x = CHECK.with(Check.WOOD);
        long[] ida = {20, 9, 1, 3, 3};
        for (int what = 0; what <= 4; what++) {
            CHECK.due("sitter(1, " + what + ")", x.sitter(1, what), ida[what]);
        }
        CHECK.due("WEIGHT without", x.sitter(0, 3), 1);
        CHECK.due("HEIGHT as he came", x.sitter(2, 4), 80);
        CHECK.due("HEIGHT of who is DOWN", x.sitter(3, 4), 0);
        x.crisis(3, 33);
        CHECK.due("3 times 33 by 100", x.sitter(3, 4), 0);
        x.crisis(3, 1);
        CHECK.due("3 times 34 by 100", x.sitter(3, 4), 1);
        CHECK.refused("sitter(4, 9)", x, 2, () -> x.sitter(4, 9));
        CHECK.refused("sitter(-1, 0)", x, 2, () -> x.sitter(-1, 0));
        CHECK.refused("sitter(0, 5)", x, 5, () -> x.sitter(0, 5));
        CHECK.refused("sitter(0, -1)", x, 5, () -> x.sitter(0, -1));
    }

    private static void promise17News() {
        MossSeats x = CHECK.with(Check.WOOD);
        CHECK.due("news(2, 0)", x.news(2, 0), 0);
        CHECK.due("news(2, 1)", x.news(2, 1), 79);
        CHECK.due("news(2, 2)", x.news(2, 2), 0);
        x.bring(2);
        CHECK.due("it CAME", x.news(2, 2), 1);
        CHECK.due("another did not", x.news(1, 2), 0);
        CHECK.refused("news(4, 9)", x, 2, () -> x.news(4, 9));
        CHECK.refused("news(-1, 0)", x, 2, () -> x.news(-1, 0));
        CHECK.refused("news(0, 3)", x, 5, () -> x.news(0, 3));
        CHECK.refused("news(0, -1)", x, 5, () -> x.news(0, -1));
    }

    private static void promise18CopyHeights() {
        MossSeats x = CHECK.with(Check.WOOD);
        x.tray(0, 0, 6);
        for (int i = 0; i < 6; i++) {
            x.write(0, i, -7);
        }
        CHECK.due("copyHeights()", x.copyHeights(0), 4);
        long[] due = {40, 3, 80, 0, -7, -7};
        for (int i = 0; i < 6; i++) {
            CHECK.due("place " + i, x.read(0, i), due[i]);
        }
        x.tray(1, 3, 4);
        CHECK.due("just as many", x.copyHeights(1), 4);
        x.tray(1, 3, 3);
        CHECK.refused("too few numbers", x, 4, () -> x.copyHeights(1));
        CHECK.due("none of them came", x.read(1, 0), 0);
        CHECK.refused("MISSING", x, 3, () -> x.copyHeights(2));
        CHECK.refused("no such TRAY", x, 1, () -> x.copyHeights(4));
        CHECK.refused("no such TRAY below", x, 1, () -> x.copyHeights(-1));
        MossSeats empty = new MossSeats();
        empty.tray(0, 0, 0);
        CHECK.due("nobody", empty.copyHeights(0), 0);
        CHECK.due("nobody, STATUS", empty.status(), 0);
    }
}
