import java.util.ArrayList;
import java.util.List;

/** The boundary cases of WOODS as texts (Terms, promises 9, 10 and 12): a test for each sentence. */
public final class EdgeTextsTest {
    private static final Check CHECK = new Check("EdgeTextsTest");
    private static final String[] RESERVED = {"odds", "matter", "pace", "clear", "hold", "by", "sitter", "mile", "tall", "for", "weight",
        "news", "size", "day", "bring", "crisis", "turn", "any", "when", "down", "settled", "high", "loop", "end", "stop"};
    private static final int NONE = -1;
    private static final String TWO = "matter a pace 1; matter b pace 2; ";
    private static final String ONE = "matter a pace 1; sitter s mile 0 tall 1 for a; ";

    public static void main(String[] args) {
        feeding();
        taking();
        bytes();
        tokens();
        names();
        numbers();
        counts();
        parts();
        faultOne();
        faultTwo();
        faultThree();
        faultsFourAndFive();
        faultSix();
        whichFault();
        taken();
        telling();
        CHECK.finish();
    }

    private static void ok(String text) {
        MossSeats x = new MossSeats();
        Check.wood(x, text);
        CHECK.due("STATUS of: " + text, x.status(), 0);
        CHECK.due("FAULT of: " + text, x.fault(0), 0);
        CHECK.due("no place of: " + text, x.fault(1), -1);
    }

    private static void fault(String text, int kind, int place) {
        MossSeats x = new MossSeats();
        CHECK.due("wood of: " + text, Check.wood(x, text), -1);
        CHECK.due("STATUS of: " + text, x.status(), 10);
        CHECK.due("FAULT of: " + text, x.fault(0), kind);
        CHECK.due("place of: " + text, x.fault(1), place);
    }

    /** A fault at the token that the mark * stands ahead of; without one, at the text's end. */
    private static void fault(String text, int kind) {
        int mark = text.indexOf('*');
        String plain = mark < 0 ? text : text.substring(0, mark) + text.substring(mark + 1);
        fault(plain, kind, mark < 0 ? plain.length() : mark);
    }

    private static void feeding() {
        CHECK.sentence("Promise 9: how many it has", () -> {
            MossSeats x = new MossSeats();
            for (int i = 1; i <= 45; i++) {
                CHECK.due("row " + i, x.feed(0, 0, 0, 0, 0), 20 * i);
            }
        });
        CHECK.sentence("Promise 9: NONE if there would be more than 900", () -> {
            MossSeats x = CHECK.with("");
            Check.feed(x, "odds 12;" + " ".repeat(892));
            for (int i = 0; i < 3; i++) {
                CHECK.due("a 46th row", x.feed(-1, -1, -1, -1, -1), -1);
            }
            CHECK.good("nothing of it came", x, x.wood(900), 0);
            CHECK.good("ODDS", x, x.many(4), 12);
            CHECK.due("there is room again", x.feed(0, 0, 0, 0, 0), 20);
        });
        CHECK.sentence("Promise 9: the highest of each int first", () -> {
            MossSeats x = new MossSeats();
            x.feed(0x6F646473, 0x2020200A, 0x0A202031, 0x363B2020, 0x20200A0A);
            CHECK.good("odds 16;", x, x.wood(20), 0);
            CHECK.good("ODDS", x, x.many(4), 16);
        });
        CHECK.sentence("Promise 9: twenty bytes come behind those on the tape", () -> {
            MossSeats x = new MossSeats();
            Check.feed(x, "matter a pace 1 clea");
            Check.feed(x, "r 3;");
            CHECK.good("a WORD on two rows", x, x.wood(24), 0);
            CHECK.good("CLEAR", x, x.matter(0, 0), 3);
        });
        CHECK.sentence("Promise 9: bytes above 127", () -> {
            for (int shift = 0; shift < 32; shift += 8) {
                MossSeats x = new MossSeats();
                x.feed(0x20202020, 0x20202020 ^ (0xA0 ^ 0x20) << shift, 0x20202020, 0x20202020, 0x20202020);
                CHECK.due("no TOKEN", x.wood(20), -1);
                CHECK.due("FAULT", x.fault(0), 1);
                CHECK.due("place", x.fault(1), 7 - shift / 8);
            }
        });
    }

    private static void taking() {
        CHECK.sentence("Promise 10: the first n bytes, none", () -> {
            MossSeats x = CHECK.with(Check.WOOD);
            CHECK.good("of an empty tape", x, x.wood(0), 0);
            CHECK.good("no MATTERS", x, x.many(0), 0);
            Check.wood(x, Check.WOOD);
            Check.feed(x, "?");
            CHECK.good("of a full one", x, x.wood(0), 0);
            CHECK.good("no MATTERS then", x, x.many(0), 0);
        });
        CHECK.sentence("Promise 10: the first n bytes, all", () -> {
            MossSeats x = new MossSeats();
            Check.feed(x, "odds 3;            ;");
            CHECK.due("the 20th counts", x.wood(20), -1);
            CHECK.due("place", x.fault(1), 19);
        });
        CHECK.sentence("Promise 10: the first n bytes, not the next one", () -> {
            MossSeats x = new MossSeats();
            Check.feed(x, "odds 3;            ;");
            CHECK.good("19", x, x.wood(19), 0);
            Check.feed(x, "odds 12;");
            CHECK.due("a NUMBER ends with them", x.wood(6), -1);
            CHECK.due("FAULT", x.fault(0), 2);
            CHECK.due("place", x.fault(1), 6);
            Check.feed(x, "matter abcdefghi");
            CHECK.due("a NAME ends with them", x.wood(15), -1);
            CHECK.due("place then", x.fault(1), 15);
        });
        CHECK.sentence("Promise 10: (5)", () -> {
            MossSeats x = new MossSeats();
            CHECK.outside(1, n -> CHECK.refused("of an empty tape " + n, x, 5, () -> x.wood(n)));
            Check.feed(x, "odds 3;");
            CHECK.outside(21, n -> CHECK.refused("of twenty bytes " + n, x, 5, () -> x.wood(n)));
        });
        CHECK.sentence("Promise 10: the tape (which is empty then, but for 5)", () -> {
            MossSeats x = new MossSeats();
            Check.feed(x, "odds 3;");
            x.wood(21);
            x.wood(-1);
            CHECK.due("with 5 it stays", x.feed(0, 0, 0, 0, 0), 40);
            CHECK.good("and is read", x, x.wood(7), 0);
            CHECK.due("it is empty then", x.feed(0, 0, 0, 0, 0), 20);
            CHECK.due("with 10", x.wood(20), -1);
            CHECK.due("with 10 it is empty, too", x.feed(0, 0, 0, 0, 0), 20);
            x.wood(0);
            CHECK.due("by none of its bytes, too", x.feed(0, 0, 0, 0, 0), 20);
        });
        CHECK.sentence("Promise 10: how many SITTERS", () -> {
            MossSeats x = new MossSeats();
            CHECK.good("none", x, Check.wood(x, TWO), 0);
            CHECK.good("one", x, Check.wood(x, ONE), 1);
            CHECK.good("seven", x, Check.wood(x, "matter a pace 1;" + many(7, "sitter # mile 1 tall 1 for a;")), 7);
        });
        CHECK.sentence("A WOOD is a TEXT of at most 900 bytes", () -> {
            String text = " ".repeat(884) + "matter a pace 3;";
            MossSeats x = new MossSeats();
            CHECK.good("a PART at the very end", x, Check.wood(x, text), 0);
            CHECK.good("PACE", x, x.matter(0, 1), 3);
            fault(" ".repeat(899) + "*?", 1);
            fault(" ".repeat(884) + "matter a pace 31", 4, 898);
            fault(" ".repeat(885) + "matter a pace 3", 2);
            ok("odds 3;" + " ".repeat(893));
        });
    }

    private static String many(int n, String part) {
        StringBuilder text = new StringBuilder();
        for (int i = 0; i < n; i++) {
            text.append(part.replace('#', (char) ('b' + i)));
        }
        return text.toString();
    }

    private static String one(int b) {
        return String.valueOf((char) b);
    }

    private static boolean isLetter(int b) {
        return b >= 97 && b <= 122;
    }

    private static boolean isDigit(int b) {
        return b >= 48 && b <= 57;
    }

    private static void bytes() {
        CHECK.sentence("between them blanks (10, 32)", () -> {
            ok(" ");
            ok("\n");
            ok("\n \nodds\n12 \n;\n\n");
            for (int b = 0; b <= 32; b++) {
                if (b == 10 || b == 32) {
                    ok("odds" + one(b) + "3" + one(b) + ";" + one(b));
                } else {
                    fault("odds" + one(b) + "3;", 1, 4);
                }
            }
        });
        CHECK.sentence("WORDS (small letters)", () -> {
            for (int b = 33; b < 256; b++) {
                if (isLetter(b)) {
                    fault(one(b), 2, 0);
                    ok("matter x" + one(b) + " pace 1;");
                } else if (b > 62 || b < 48) {
                    fault("odds" + one(b) + " 3;", 1, 4);
                }
            }
        });
        CHECK.sentence("NUMBERS (1 to 4 digits): which are digits", () -> {
            for (int b = 33; b < 60; b++) {
                if (isDigit(b)) {
                    ok("odds 0" + one(b) + ";");
                } else if (b != 59) {
                    fault("odds 1" + one(b) + ";", 1, 6);
                }
            }
        });
        CHECK.sentence("SIGNS ; < > =", () -> {
            for (int b = 33; b < 256; b++) {
                if (isLetter(b) || isDigit(b) || b == ';' || b == '<' || b == '>' || b == '=') {
                    fault(one(b), 2, 0);
                } else {
                    fault(one(b), 1, 0);
                }
            }
        });
    }

    private static void tokens() {
        CHECK.sentence("TOKENS, as long as they go", () -> {
            MossSeats x = new MossSeats();
            CHECK.good("without blanks", x, Check.wood(x, "odds12;matter a pace10clear20;matter b pace3;hold a by b;sitter s mile5tall6for a weight7;news a size8;"), 1);
            CHECK.good("ODDS", x, x.many(4), 12);
            CHECK.good("PACE", x, x.matter(0, 1), 10);
            CHECK.good("CLEAR", x, x.matter(0, 0), 20);
            CHECK.good("WEIGHT", x, x.sitter(0, 3), 7);
            fault("*oddsx 3;", 2);
            fault("*mat ter a pace 1;", 2);
            fault("odds 1 *2;", 2);
            fault("*matterb pace 1;", 2);
            ok("matter odd pace 1; matter oddsodds pace 1; sitter s mile 1 tall 1 for oddsodds;");
        });
        CHECK.sentence("NUMBERS (1 to 4 digits)", () -> {
            for (String four : new String[] {"3", "03", "003", "0003"}) {
                ok("odds " + four + ";");
            }
            fault("odds *00003;", 1);
            fault("odds *000000000003;", 1);
            fault("odds *4294967299;", 1);
            fault("odds *9999;", 4);
        });
        CHECK.sentence("WOOD: {PART}, none", () -> {
            ok("");
            ok("  \n  ");
        });
        CHECK.sentence("[ ] perhaps", () -> {
            MossSeats x = CHECK.with("matter a pace 1; matter b pace 1 clear 0; matter c pace 1 clear 7;"
                + "sitter s mile 0 tall 1 for a; sitter t mile 0 tall 1 for a weight 4;");
            CHECK.good("CLEAR without", x, x.matter(0, 0), 0);
            CHECK.good("CLEAR 0", x, x.matter(1, 0), 0);
            CHECK.good("CLEAR with", x, x.matter(2, 0), 7);
            CHECK.good("WEIGHT without", x, x.sitter(0, 3), 1);
            CHECK.good("WEIGHT with", x, x.sitter(1, 3), 4);
        });
        CHECK.sentence("[ ] perhaps, not twice", () -> {
            fault("matter a pace 1 clear 1 *clear 2;", 2);
            fault("sitter s mile 0 tall 1 for *a weight 1;", 3);
            fault("matter a pace 1; sitter s mile 0 tall 1 for a weight 1 *weight 1;", 2);
        });
    }

    private static void names() {
        CHECK.sentence("NAME: a WORD of 1 to 8 letters", () -> {
            for (int n = 1; n <= 8; n++) {
                String name = "z".repeat(n);
                ok("matter " + name + " pace 1; sitter " + "y".repeat(n) + " mile 0 tall 1 for " + name + "; news " + name + " size 1;");
            }
        });
        CHECK.sentence("FAULT 2: a WORD of 9 letters and more where a NAME must stand", () -> {
            for (int n : new int[] {9, 10, 12, 13, 14, 16, 20, 26}) {
                String word = "z".repeat(n);
                fault("matter *" + word + " pace 1;", 2);
                fault(TWO + "hold *" + word + " by b;", 2);
                fault(TWO + "hold a by *" + word + ";", 2);
                fault(TWO + "sitter *" + word + " mile 1 tall 1 for a;", 2);
                fault(TWO + "sitter s mile 1 tall 1 for *" + word + ";", 2);
                fault(TWO + "news *" + word + " size 1;", 2);
            }
        });
        CHECK.sentence("NAME: all its letters tell it", () -> {
            MossSeats x = CHECK.with("matter abcdefgh pace 1; matter abcdefgi pace 2; matter bbcdefgh pace 3; matter abcdefg pace 4; matter a pace 5; matter aa pace 6;"
                + "news abcdefgh size 1; news abcdefgi size 1; news bbcdefgh size 1; news abcdefg size 1; news a size 1; news aa size 1;");
            for (int n = 0; n < 6; n++) {
                CHECK.good("NEWS " + n, x, x.news(n, 0), n);
            }
        });
        CHECK.sentence("NAME: none of odds, matter, ...", () -> {
            for (String word : RESERVED) {
                fault("matter *" + word + " pace 1;", 2);
                fault(TWO + "hold *" + word + " by b;", 2);
                fault(TWO + "hold a by *" + word + ";", 2);
                fault(TWO + "sitter *" + word + " mile 1 tall 1 for a;", 2);
                fault(TWO + "sitter s mile 1 tall 1 for *" + word + ";", 2);
                fault(TWO + "news *" + word + " size 1;", 2);
            }
        });
        CHECK.sentence("NAME: a WORD that is nearly one of those", () -> {
            for (String word : RESERVED) {
                ok("matter " + word.substring(1) + "q pace 1;");
                if (word.length() < 8) {
                    ok("matter " + word + "s pace 1;");
                }
                ok("matter " + word.substring(0, word.length() - 1) + "q pace 1;");
            }
            for (String word : new String[] {"down", "turn", "loop", "stop", "hold", "tall", "clear", "weight"}) {
                ok("matter " + word.substring(0, word.length() - 1) + " pace 1; matter " + word.substring(1) + " pace 1;");
            }
        });
        CHECK.sentence("One NAME is of one thing alone", () -> {
            fault("matter a pace 1; matter *a pace 1;", 3);
            fault("matter a pace 1; sitter *a mile 0 tall 1 for a;", 3);
            fault(ONE + "matter *s pace 1;", 3);
            fault(ONE + "sitter *s mile 0 tall 1 for a;", 3);
            fault(TWO + "matter *a pace 1;", 3);
            fault(ONE + "matter b pace 1; sitter t mile 0 tall 1 for b; sitter *b mile 0 tall 1 for a;", 3);
            fault(ONE + "matter b pace 1; sitter t mile 0 tall 1 for b; matter *t pace 1;", 3);
        });
    }

    /** A number at both its bounds, and one beyond each. */
    private static void bounds(String ahead, String behind, int least, int most) {
        ok(ahead + least + behind);
        ok(ahead + most + behind);
        fault(ahead + (most + 1) + behind, 4, ahead.length());
        fault(ahead + 9999 + behind, 4, ahead.length());
        if (least > 0) {
            fault(ahead + 0 + behind, 4, ahead.length());
            fault(ahead + "0000" + behind, 4, ahead.length());
        }
    }

    private static void numbers() {
        CHECK.sentence("ODDS (0 to 16; 4 without)", () -> {
            bounds("odds ", ";", 0, 16);
            MossSeats x = CHECK.with("odds 0;");
            CHECK.good("0", x, x.many(4), 0);
            Check.wood(x, "odds 16;");
            CHECK.good("16", x, x.many(4), 16);
            Check.wood(x, "matter a pace 1;");
            CHECK.good("without", x, x.many(4), 4);
        });
        CHECK.sentence("PACE (0 to 20)", () -> {
            bounds("matter a pace ", ";", 0, 20);
            MossSeats x = CHECK.with("matter a pace 0; matter b pace 20;");
            CHECK.good("0", x, x.matter(0, 1), 0);
            CHECK.good("20", x, x.matter(1, 1), 20);
        });
        CHECK.sentence("CLEAR (0 to 100; 0 without)", () -> {
            bounds("matter a pace 1 clear ", ";", 0, 100);
            MossSeats x = CHECK.with("matter a pace 1 clear 0; matter b pace 1 clear 100; matter c pace 1;");
            CHECK.good("0", x, x.matter(0, 0), 0);
            CHECK.good("100", x, x.matter(1, 0), 100);
            CHECK.good("without", x, x.matter(2, 0), 0);
        });
        CHECK.sentence("MILE of the road (0 to 59)", () -> {
            bounds("matter a pace 1; sitter s mile ", " tall 1 for a;", 0, 59);
            MossSeats x = CHECK.with("matter a pace 1; sitter s mile 0 tall 1 for a; sitter t mile 59 tall 1 for a;");
            CHECK.good("0", x, x.sitter(0, 0), 0);
            CHECK.good("59", x, x.sitter(1, 0), 59);
        });
        CHECK.sentence("how TALL his seat came up (1 to 99)", () -> {
            bounds("matter a pace 1; sitter s mile 0 tall ", " for a;", 1, 99);
            MossSeats x = CHECK.with("matter a pace 1; sitter s mile 0 tall 1 for a; sitter t mile 59 tall 99 for a;");
            CHECK.good("1", x, x.sitter(0, 1), 1);
            CHECK.good("99", x, x.sitter(1, 1), 99);
        });
        CHECK.sentence("WEIGHT (1 to 9; 1 without)", () -> {
            bounds("matter a pace 1; sitter s mile 0 tall 1 for a weight ", ";", 1, 9);
            MossSeats x = CHECK.with("matter a pace 1; sitter s mile 0 tall 1 for a weight 1; sitter t mile 59 tall 99 for a weight 9; sitter u mile 0 tall 1 for a;");
            CHECK.good("1", x, x.sitter(0, 3), 1);
            CHECK.good("9", x, x.sitter(1, 3), 9);
            CHECK.good("without", x, x.sitter(2, 3), 1);
        });
        CHECK.sentence("SIZE (1 to 100)", () -> {
            bounds("matter a pace 1; news a size ", ";", 1, 100);
            MossSeats x = CHECK.with("matter a pace 1; news a size 1; news a size 100;");
            CHECK.good("1", x, x.news(0, 1), 1);
            CHECK.good("100", x, x.news(1, 1), 100);
        });
    }

    private static final String SIX = "matter a pace 1;matter b pace 1;matter c pace 1;matter d pace 1;matter e pace 1;matter f pace 1;";
    private static final String TEN = "hold a by b;hold a by c;hold a by d;hold a by e;hold a by f;hold b by a;hold b by c;hold b by d;hold b by e;hold f by e;";
    private static final String SEVEN = "sitter g mile 1 tall 1 for a;sitter h mile 2 tall 1 for b;sitter i mile 3 tall 1 for c;sitter j mile 4 tall 1 for d;"
        + "sitter k mile 5 tall 1 for e;sitter l mile 6 tall 1 for f;sitter m mile 7 tall 1 for f;";
    private static final String EIGHT = "news a size 1;news b size 2;news c size 3;news d size 4;news e size 5;news f size 6;news f size 7;news f size 8;";

    private static void counts() {
        CHECK.sentence("MATTERS, at most 6", () -> {
            MossSeats x = CHECK.with(SIX);
            CHECK.good("six", x, x.many(0), 6);
            CHECK.good("the sixth", x, x.matter(5, 1), 1);
            Check.wood(x, SIX.replace("matter f pace 1", "matter foxtrots pace 19 clear 98"));
            CHECK.good("its PACE", x, x.matter(5, 1), 19);
            CHECK.good("its CLEAR", x, x.matter(5, 0), 98);
            CHECK.good("its NAME", x, Check.years(x, "crisis foxtrots 1;"), 1);
        });
        CHECK.sentence("HOLDS, at most 10", () -> {
            MossSeats x = CHECK.with(SIX + TEN);
            CHECK.good("ten", x, x.many(1), 10);
            CHECK.good("the tenth", x, x.hold(9, 0) * 10 + x.hold(9, 1), 54);
            CHECK.good("it holds", x, x.many(7), 1 + 2 + 32);
        });
        CHECK.sentence("SITTERS, at most 7", () -> {
            MossSeats x = CHECK.with(SIX + SEVEN);
            CHECK.good("seven", x, x.many(2), 7);
            CHECK.good("the seventh", x, x.sitter(6, 0), 7);
            Check.wood(x, SIX + SEVEN.replace("sitter m mile 7 tall 1 for f", "sitter marigold mile 57 tall 98 for e weight 8"));
            int[] due = {57, 98, 4, 8, 98};
            for (int what = 0; what <= 4; what++) {
                CHECK.good("of the seventh, what " + what, x, x.sitter(6, what), due[what]);
            }
            CHECK.good("its NAME", x, Check.years(x, "when down marigold; end;"), 1);
        });
        CHECK.sentence("NEWS, at most 8", () -> {
            MossSeats x = CHECK.with(SIX + EIGHT);
            CHECK.good("eight", x, x.many(3), 8);
            CHECK.good("the eighth", x, x.news(7, 1), 8);
            CHECK.good("its MATTER", x, x.news(7, 0), 5);
            CHECK.good("it comes", x, x.bring(7), 8);
        });
        CHECK.sentence("All are numbered as they stand", () -> {
            MossSeats x = CHECK.with("matter z pace 7; sitter y mile 8 tall 9 for z; matter a pace 10; news a size 11; sitter b mile 12 tall 13 for a; hold a by z; news z size 14; hold z by a;");
            CHECK.good("MATTERS", x, x.matter(0, 1) * 100 + x.matter(1, 1), 710);
            CHECK.good("SITTERS", x, x.sitter(0, 1) * 100 + x.sitter(1, 1), 913);
            CHECK.good("NEWS", x, x.news(0, 1) * 100 + x.news(1, 1), 1114);
            CHECK.good("HOLDS", x, x.hold(0, 0) * 10 + x.hold(1, 0), 10);
        });
        CHECK.sentence("the first MATTER is HELD by the second one (another one)", () -> {
            MossSeats x = CHECK.with(TWO + "hold b by a;");
            CHECK.good("which", x, x.hold(0, 0) * 10 + x.hold(0, 1), 10);
            CHECK.good("STUCK", x, x.many(7), 2);
            fault(TWO + "hold a by *a;", 5);
            fault(TWO + "hold b by *b;", 5);
        });
        CHECK.sentence("no two of the same two in this order", () -> {
            fault(TWO + "hold a by b; hold a by *b;", 5);
            fault(SIX + TEN.substring(0, 5 * 12) + "hold a by *b;", 5);
            fault(SIX + TEN.substring(0, 5 * 12) + "hold a by *f;", 5);
            MossSeats x = CHECK.with(TWO + "hold a by b; hold b by a;");
            CHECK.good("in the other order", x, x.many(1), 2);
        });
    }

    private static void parts() {
        CHECK.sentence("PART: each TOKEN where it stands, or FAULT 2", () -> {
            each("odds 3 ;", NONE);
            each("matter a pace 1 clear 2 ;", 4);
            each("hold m by n ;", NONE);
            each("sitter a mile 1 tall 2 for m weight 3 ;", 8);
            each("news m size 3 ;", NONE);
        });
        CHECK.sentence("PART: of those alone", () -> {
            for (String word : RESERVED) {
                if (!List.of("odds", "matter", "hold", "sitter", "news").contains(word)) {
                    fault("*" + word + " 3;", 2);
                    fault("odds 3; *" + word, 2);
                }
            }
            fault("*;", 2);
            fault("odds 3;*;", 2);
            fault("*a pace 1;", 2);
            fault("*7;", 2);
        });
    }

    /** Cuts a PART behind each of its tokens, and puts what can't stand there in the place of each; it may end ahead of one. */
    private static void each(String part, int mayEnd) {
        String ahead = "matter m pace 1; matter n pace 1; ";
        String[] tokens = part.split(" ");
        StringBuilder sofar = new StringBuilder(ahead);
        for (int i = 0; i < tokens.length; i++) {
            String behind = String.join(" ", new ArrayList<>(List.of(tokens)).subList(i + 1, tokens.length));
            fault(sofar + "< " + behind, 2, sofar.length());
            fault(sofar + "day " + behind, 2, sofar.length());
            fault(sofar + "abcdefghi " + behind, 2, sofar.length());
            fault(sofar + "12345 " + behind, 1, sofar.length());
            fault(sofar + ". " + behind, 1, sofar.length());
            if (i == mayEnd) {
                ok(sofar + ";");
            } else if (!tokens[i].equals(";")) {
                fault(sofar + ";", 2, sofar.length());
            }
            if (!tokens[i].equals(";")) {
                fault(sofar + (Character.isDigit(tokens[i].charAt(0)) ? "x" : "7"), 2, sofar.length());
            }
            sofar.append(tokens[i]);
            if (i < tokens.length - 1) {
                fault(sofar.toString(), 2, sofar.length());
                fault(sofar + " \n", 2, sofar.length() + 2);
            } else {
                ok(sofar.toString());
            }
            sofar.append(' ');
        }
    }

    private static void faultOne() {
        CHECK.sentence("FAULT 1: no TOKEN begins so", () -> {
            fault("*?", 1);
            fault("  *Odds 3;", 1);
            fault("odds *-1;", 1);
            fault("odds 1*.5;", 1);
            fault("matter a*_b pace 1;", 1);
            fault("odds 3; *{", 1);
            fault("odds 3;*/", 1);
        });
        CHECK.sentence("FAULT 1: (a NUMBER of 5 digits and more: at its first)", () -> {
            fault("odds *12345;", 1);
            fault("odds *00000;", 1);
            fault("odds *99999999999999999999;", 1);
            fault("*12345", 1);
            fault("matter *12345 pace 1;", 1);
            fault("matter a pace 1 *12345", 1);
        });
    }

    private static void faultTwo() {
        CHECK.sentence("FAULT 2: it can't stand there", () -> {
            fault("matter a *size 1;", 2);
            fault("matter a pace 1 *weight 1;", 2);
            fault(TWO + "hold a *for b;", 2);
            fault(TWO + "sitter s *tall 1;", 2);
            fault(TWO + "sitter s mile 1 *for a;", 2);
            fault(TWO + "sitter s mile 1 tall 1 *weight 1;", 2);
            fault(TWO + "sitter s mile 1 tall 1 for a *clear 1;", 2);
            fault(TWO + "news a *3;", 2);
            fault("odds *=3;", 2);
        });
        CHECK.sentence("FAULT 2: (the end: the text's length)", () -> {
            fault("odds", 2);
            fault("odds 3", 2);
            fault("odds 3 ", 2);
            fault("odds 3\n\n   ", 2);
            fault("matter a pace 1 clear 3", 2);
            fault(TWO + "hold a by b", 2);
            fault(TWO + "hold", 2);
            fault("matter a pace 3;" + " ".repeat(880) + "odds", 2, 900);
        });
    }

    private static void faultThree() {
        CHECK.sentence("FAULT 3: a new NAME that is taken", () -> {
            fault("matter a pace 1; matter *a", 3);
            fault(SIX.substring(0, 80) + "matter *e pace 1;", 3);
            fault(SIX + SEVEN.substring(0, 29 * 6) + "sitter *l mile", 3);
            fault(SIX + SEVEN.substring(0, 29 * 6) + "sitter *f mile", 3);
        });
        CHECK.sentence("FAULT 3: a NAME that is no MATTER told ahead", () -> {
            fault("hold *a by a;", 3);
            fault("matter a pace 1; hold a by *b; matter b pace 1;", 3);
            fault("sitter s mile 1 tall 1 for *a; matter a pace 1;", 3);
            fault("news *a size 1; matter a pace 1;", 3);
            fault("matter a pace 1; sitter s mile 1 tall 1 for *s;", 3);
            fault(ONE + "news *s size 1;", 3);
            fault(ONE + "hold *s by a;", 3);
            fault(ONE + "hold a by *s;", 3);
            fault("matter ab pace 1; news *a size 1;", 3);
            fault("matter a pace 1; news *ab size 1;", 3);
        });
        CHECK.sentence("who, what is named must be told ahead: not in a WOOD ahead", () -> {
            MossSeats x = CHECK.with(Check.WOOD);
            CHECK.due("wood", Check.wood(x, "news law size 1;"), -1);
            CHECK.due("FAULT", x.fault(0), 3);
            CHECK.due("place", x.fault(1), 5);
            CHECK.good("all NAMES are free again", x, Check.wood(x, "matter gil pace 1; sitter law mile 0 tall 1 for gil;"), 1);
        });
    }

    private static void faultsFourAndFive() {
        CHECK.sentence("FAULT 4: a NUMBER that can't be", () -> {
            fault("odds *17", 4);
            fault("matter a pace *21", 4);
            fault("matter a pace 1 clear *101", 4);
            fault("matter a pace 1; sitter s mile *60", 4);
            fault("matter a pace 1; sitter s mile 0 tall *100", 4);
            fault("matter a pace 1; sitter s mile 0 tall *0", 4);
            fault("matter a pace 1; news a size *0", 4);
        });
        CHECK.sentence("FAULT 5: odds told already (at that WORD)", () -> {
            fault("odds 3; *odds 3;", 5);
            fault("odds 0; *odds", 5);
            fault("odds 4; *odds 17;", 5);
            fault("odds 3; matter a pace 1; *odds 3;", 5);
            ok("matter a pace 1; odds 3;");
            MossSeats x = CHECK.with("odds 3;");
            CHECK.good("told in the WOOD ahead", x, Check.wood(x, "odds 3;"), 0);
        });
        CHECK.sentence("FAULT 5: a HOLD of one by itself (at the second NAME)", () -> {
            fault(TWO + "hold a by *a", 5);
            fault(TWO + "hold b by *b;", 5);
        });
        CHECK.sentence("FAULT 5: a HOLD told already (at the second NAME)", () -> {
            fault(TWO + "hold a by b; hold b by a; hold a by *b", 5);
            fault(TWO + "hold a by b; hold b by a; hold b by *a;", 5);
        });
    }

    private static void faultSix() {
        CHECK.sentence("FAULT 6: a seventh matter (at that WORD)", () -> {
            fault(SIX + "*matter g pace 1;", 6);
            fault(SIX + "*matter", 6);
            fault(SIX + "odds 3; *matter a", 6);
        });
        CHECK.sentence("FAULT 6: an 11th hold (at that WORD)", () -> {
            fault(SIX + TEN + "*hold c by d;", 6);
            fault(SIX + TEN + "*hold", 6);
            fault(SIX + TEN + "*hold a by b;", 6);
        });
        CHECK.sentence("FAULT 6: an eighth sitter (at that WORD)", () -> {
            fault(SIX + SEVEN + "*sitter n mile 0 tall 1 for a;", 6);
            fault(SIX + SEVEN + "*sitter", 6);
        });
        CHECK.sentence("FAULT 6: a ninth news (at that WORD)", () -> {
            fault(SIX + EIGHT + "*news a size 1;", 6);
            fault(SIX + EIGHT + "*news", 6);
        });
        CHECK.sentence("FAULT 6: each of its own kind", () -> {
            ok(SIX + EIGHT + SEVEN + TEN + "odds 3;");
            fault(SIX + EIGHT + SEVEN + TEN + "*matter", 6);
            ok(SIX.substring(0, 80) + EIGHT.substring(0, 70) + "matter f pace 1;");
        });
    }

    private static void whichFault() {
        CHECK.sentence("FAULTS, the first along the text", () -> {
            fault("odds *17; ?", 4);
            fault("odds *x ?", 2);
            fault("matter a pace 1; matter *a 12345", 3);
            fault("odds 3; *odds ?", 5);
            fault(SIX + "*matter ?", 6);
            fault("odds *? x", 1);
            fault("matter a *pa pace ?", 2);
            fault(TWO + "hold a by *a hold", 5);
            fault("odds 3 *odds 3; odds", 2);
        });
        CHECK.sentence("FAULTS: (of one TOKEN the least kind)", () -> {
            fault("odds *12345;", 1);
            fault("hold *a by a;", 3);
            fault("matter *12345", 1);
            fault(TWO + "hold a by *c;", 3);
            fault(TWO + "hold a by *hold;", 2);
            fault(SIX + TEN + "*hold a by a;", 6);
            fault(SIX + TEN + "*hold z by z;", 6);
        });
    }

    private static MossSeats lived() {
        MossSeats x = CHECK.with(Check.WOOD);
        Check.years(x, "day 1;");
        x.day(5);
        x.bring(0);
        return x;
    }

    private static void taken() {
        CHECK.sentence("A WOOD that is taken is there in place of that ahead", () -> {
            MossSeats x = CHECK.with(SIX + TEN + SEVEN + EIGHT + "odds 9;");
            CHECK.good("wood", x, Check.wood(x, ONE), 1);
            int[] due = {1, 0, 1, 0, 4, 0, 0, 0, 0, 0};
            for (int what = 0; what <= 9; what++) {
                CHECK.good("many(" + what + ")", x, x.many(what), due[what]);
            }
            CHECK.good("HELD by", x, x.matter(0, 2), 0);
            CHECK.good("who sit FOR it", x, x.matter(0, 3), 1);
            CHECK.refused("MATTER 1", x, 2, () -> x.matter(1, 0));
        });
        CHECK.sentence("it is DAY 0", () -> {
            MossSeats x = lived();
            CHECK.good("wood", x, Check.wood(x, Check.WOOD), 4);
            CHECK.good("the DAY", x, x.many(5), 0);
            CHECK.good("CLEAR as told", x, x.matter(2, 0), 0);
            Check.years(x, "day 40; bring 0;");
            x.mean(0, 2);
            CHECK.good("behind a mean", x, Check.wood(x, Check.WOOD), 4);
            CHECK.good("the DAY behind a mean", x, x.many(5), 0);
            CHECK.good("the NEWS behind a mean", x, x.many(9), 0);
        });
        CHECK.sentence("no NEWS CAME", () -> {
            MossSeats x = lived();
            CHECK.good("wood", x, Check.wood(x, Check.WOOD), 4);
            CHECK.good("which CAME", x, x.many(9), 0);
            CHECK.good("it may come again", x, x.bring(0), 90);
        });
        CHECK.sentence("there are no YEARS", () -> {
            MossSeats x = lived();
            CHECK.good("wood", x, Check.wood(x, Check.WOOD), 4);
            CHECK.refused("live", x, 8, () -> x.live(0));
            CHECK.refusedNo("mean", x, 8, () -> x.mean(0, 1));
        });
        CHECK.sentence("Promise 10: 10: the old one stays", () -> {
            String[] bad = {"?", "odds 3; odds 3;", "matter a pace 1; sitter s mile 0 tall 1 for a; news a size 1; hold a by a;", SIX + TEN + SEVEN + EIGHT + "odds 17;"};
            for (String text : bad) {
                MossSeats x = lived();
                CHECK.due("wood", Check.wood(x, text), -1);
                CHECK.due("STATUS", x.status(), 10);
                int[] due = {4, 2, 4, 4, 8, 5, 8, 1, 10, 1};
                for (int what = 0; what <= 9; what++) {
                    CHECK.good("many(" + what + ")", x, x.many(what), due[what]);
                }
                CHECK.good("CLEAR", x, x.matter(2, 0), 75);
                CHECK.good("its YEARS", x, x.live(0), 1);
                CHECK.good("its NAMES", x, Check.years(x, "turn gil tax; crisis law 3;"), 2);
            }
        });
        CHECK.sentence("MARKS outlast a WOOD that is taken", () -> {
            MossSeats x = lived();
            x.mark();
            Check.wood(x, "");
            CHECK.good("back", x, x.back(), 0);
            CHECK.good("the DAY", x, x.many(5), 5);
            CHECK.good("the YEARS", x, x.live(0), 1);
        });
    }

    private static void telling() {
        CHECK.sentence("Promise 12: NONE for others", () -> {
            MossSeats x = CHECK.with(Check.WOOD);
            CHECK.outside(2, what -> CHECK.due("fault(" + what + ")", x.fault(what), -1));
            Check.wood(x, "odds 17;");
            CHECK.outside(2, what -> CHECK.due("behind a FAULT, fault(" + what + ")", x.fault(what), -1));
        });
        CHECK.sentence("Promise 12: and ahead of any", () -> {
            MossSeats x = new MossSeats();
            CHECK.due("what 0", x.fault(0), -1);
            CHECK.due("what 1", x.fault(1), -1);
            x.wood(1);
            x.years(1);
            CHECK.due("5 is none of these: what 0", x.fault(0), -1);
            CHECK.due("5 is none of these: what 1", x.fault(1), -1);
        });
        CHECK.sentence("Promise 12: (0 without one), (NONE without)", () -> {
            MossSeats x = new MossSeats();
            Check.wood(x, "odds 17;");
            Check.wood(x, "odds 16;");
            CHECK.due("of wood: the FAULT", x.fault(0), 0);
            CHECK.due("of wood: its place", x.fault(1), -1);
            Check.years(x, "day 41;");
            Check.years(x, "day 40;");
            CHECK.due("of years: the FAULT", x.fault(0), 0);
            CHECK.due("of years: its place", x.fault(1), -1);
        });
        CHECK.sentence("Promise 12: of the latest of these with STATUS 0 or 10", () -> {
            MossSeats x = new MossSeats();
            Check.wood(x, "odds 17;");
            CHECK.due("wood", x.fault(0) * 100 + x.fault(1), 405);
            Check.years(x, "day 1; go");
            CHECK.due("years", x.fault(0) * 100 + x.fault(1), 207);
            x.years(-1);
            x.years(301);
            x.wood(901);
            x.mark();
            x.back();
            x.live(0);
            x.many(10);
            CHECK.due("5, and other calls, tell none", x.fault(0) * 100 + x.fault(1), 207);
            Check.wood(x, "?");
            CHECK.due("the place 0", x.fault(0) * 100 + x.fault(1), 100);
        });
    }
}
