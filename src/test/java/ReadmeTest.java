import java.io.ByteArrayOutputStream;
import java.io.IOException;
import java.io.PrintStream;
import java.nio.file.Files;
import java.nio.file.Path;
import java.util.ArrayList;
import java.util.List;

/** What README.md shows of the use stands here word by word, so that it compiles, and prints what is told there. */
public final class ReadmeTest {
    private static final Check CHECK = new Check("ReadmeTest");

    public static void main(String[] args) throws IOException {
        List<String> shown = blocks(Files.readAllLines(Path.of("README.md")));
        List<String> here = stripped(Files.readAllLines(Path.of("src/test/java/ReadmeTest.java")));
        int at = 0;
        for (String line : shown) {
            int found = here.subList(at, here.size()).indexOf(line);
            CHECK.due("README.md shows what is not tried here: " + line, found >= 0, true);
            at += found + 1;
        }
        List<String> printed = printed();
        List<String> told = told(shown);
        CHECK.due("answers that README.md tells", told.size(), printed.size());
        CHECK.due("README.md tells answers", told.size() > 0, true);
        for (int i = 0; i < Math.min(told.size(), printed.size()); i++) {
            CHECK.due("README.md tells " + told.get(i) + ", it is " + printed.get(i), told.get(i).equals(printed.get(i)), true);
        }
        CHECK.finish();
    }

    /** The lines of all Java in a page. */
    private static List<String> blocks(List<String> page) {
        List<String> lines = new ArrayList<>();
        boolean inside = false;
        for (String line : page) {
            if (line.startsWith("```")) {
                inside = line.equals("```java");
            } else if (inside) {
                lines.add(line);
            }
        }
        return stripped(lines);
    }

    private static List<String> stripped(List<String> lines) {
        List<String> stripped = new ArrayList<>();
        for (String line : lines) {
            stripped.add(line.strip());
        }
        return stripped;
    }

    /** The first word of each remark behind a println. */
    private static List<String> told(List<String> lines) {
        List<String> told = new ArrayList<>();
        for (String line : lines) {
            if (line.startsWith("System.out.println(")) {
                int remark = line.indexOf("// ");
                told.add(remark < 0 ? "nothing" : line.substring(remark + 3).split(":")[0]);
            }
        }
        return told;
    }

    private static List<String> printed() {
        PrintStream usual = System.out;
        ByteArrayOutputStream bytes = new ByteArrayOutputStream();
        System.setOut(new PrintStream(bytes, true));
        example();
        System.setOut(usual);
        return bytes.toString().lines().toList();
    }

    /** Puts a text on the tape, twenty bytes at a time, with blanks behind it: how many bytes the tape has. */
    static int feed(MossSeats x, String text) {
        int[] four = new int[5];
        int bytes = 0;
        for (int at = 0; at < text.length(); at += 20) {
            for (int i = 0; i < 20; i++) {
                int sign = at + i < text.length() ? text.charAt(at + i) : ' ';
                four[i / 4] = four[i / 4] << 8 | sign;
            }
            bytes = x.feed(four[0], four[1], four[2], four[3], four[4]);
        }
        return bytes;
    }

    private static void example() {
        MossSeats x = new MossSeats();
        feed(x, "odds 4; matter war pace 10 clear 40; matter law pace 5; hold law by war;");
        feed(x, "sitter gil mile 5 tall 50 for war; sitter ida mile 20 tall 9 for law weight 3;");
        System.out.println(x.wood(feed(x, "news war size 60; news law size 100;"))); // 2: so many SITTERS

        System.out.println(x.sitter(0, 4)); // 30: HEIGHT of gil, who is SITTER 0
        System.out.println(x.many(7)); // 2: the set of MATTERS that are STUCK: MATTER 1 (law) alone
        System.out.println(x.downIn(1)); // 24: in so many DAYS ida is DOWN
        System.out.println(x.leastSet(3)); // 3: for both to be DOWN now, NEWS 0 and 1
        System.out.println(x.share(0)); // true: the FRACTION is told
        System.out.println(x.top() + " by " + x.bottom()); // 10 by 13: gil's part of all HEIGHTS

        System.out.println(x.mark()); // 1: so many MARKS
        System.out.println(x.day(6)); // 1: the set of SITTERS who are DOWN then: gil alone
        System.out.println(x.bring(0)); // -1: NONE: it was refused
        System.out.println(x.status()); // 9: it can't be: the MATTER is SETTLED
        System.out.println(x.back()); // 0: no MARK is left, and it is DAY 0 again

        System.out.println(x.years(feed(x, "when high gil > 20; bring 0; end; loop 3; day 2; any; end;"))); // 5: so many STEPS
        System.out.println(x.live(7)); // 9: so many were come to, by the seed 7
        System.out.println(x.lived(1)); // 8: so many DAYS went by in them

        System.out.println(x.wood(feed(x, "matter war pace 21;"))); // -1: NONE: the WOOD stays as it was
        System.out.println(x.status()); // 10: a FAULT
        System.out.println(x.fault(0)); // 4: a NUMBER that can't be
        System.out.println(x.fault(1)); // 16: where it begins in the text

        System.out.println(x.tray(0, 3, 4)); // true: TRAY 0 is a row of four numbers of 64 bits, all 0
        System.out.println(x.write(0, 1, 50)); // true: a HEIGHT of 50 in 0 DAYS
        System.out.println(x.write(0, 2, 6)); // true: a HEIGHT of 0 in 6 DAYS
        System.out.println(x.laws(0, 2)); // 4: so many couples of a TALL and a PACE fit these two
        System.out.println(x.lawOf(0, 2, 1)); // 17: PACE of the first of them
    }
}
