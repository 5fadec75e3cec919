import java.nio.charset.StandardCharsets;
import java.util.Arrays;
import java.util.function.BooleanSupplier;
import java.util.function.IntConsumer;
import java.util.function.IntSupplier;

/** What the tests share: comparing answers, feeding texts, refused calls. */
final class Check {
    /** The wood that most tests begin with; matter 3 is settled, 0 is stuck, 2 is held by a settled one. */
    static final String WOOD = "odds 8; matter inn pace 10 clear 20; matter law pace 0 clear 60; matter tax pace 15;\n"
        + "matter tea pace 7 clear 100; hold inn by law; hold tax by tea;"
        + "sitter gil mile 5 tall 50 for inn; sitter ida mile 20 tall 9 for law weight 3;"
        + "sitter joe mile 20 tall 80 for tax weight 2; sitter kit mile 40 tall 3 for tea;"
        + "news law size 30; news law size 15; news inn size 79; news tax size 100;";

    /** Numbers far beyond all bounds. */
    static final int[] FAR = {Integer.MIN_VALUE, Integer.MIN_VALUE + 1, -65536, -256, 256, 65536, Integer.MAX_VALUE - 1, Integer.MAX_VALUE};

    private static final int MOST_TOLD = 60;
    private static final int MOST_SECONDS = 300;

    private final String test;
    private String about = "";
    private int sentences = 0;
    private int wrong = 0;
    private int asked = 0;

    Check(String test) {
        this.test = test;
        Thread clock = new Thread(() -> endIfItHangs(test));
        clock.setDaemon(true);
        clock.start();
    }

    /** A broken class may go on without an end; its test fails all the same. */
    private static void endIfItHangs(String test) {
        try {
            Thread.sleep(1000L * MOST_SECONDS);
        } catch (InterruptedException woken) {
            return;
        }
        System.out.println(test + ": not through in " + MOST_SECONDS + " seconds");
        Runtime.getRuntime().halt(1);
    }

    /** The first few alone are told. */
    private void tell(String what) {
        wrong++;
        if (wrong <= MOST_TOLD) {
            System.out.println(test + ": " + about + what);
        }
    }

    void due(String what, long got, long due) {
        asked++;
        if (got != due) {
            tell(what + " answered " + got + ", due is " + due);
        }
    }

    void due(String what, boolean got, boolean due) {
        due(what, got ? 1 : 0, due ? 1 : 0);
    }

    /** The test of one sentence of the document, by its words. What is thrown in it ends it alone. */
    void sentence(String words, Runnable asks) {
        sentences++;
        about = "[" + words + "] ";
        int before = asked;
        try {
            asks.run();
        } catch (RuntimeException thrown) {
            tell("threw " + thrown);
        }
        due("asked nothing", asked == before, false);
        about = "";
    }

    /** A call that is not refused. */
    void good(String what, MossSeats x, long got, long due) {
        due(what, got, due);
        due(what + ", STATUS", x.status(), 0);
    }

    void good(String what, MossSeats x, boolean got) {
        due(what, got, true);
        due(what + ", STATUS", x.status(), 0);
    }

    /** Numbers outside of 0 to so many less one: those next to them, and those far off. */
    void outside(int many, IntConsumer asks) {
        asks.accept(-1);
        asks.accept(many);
        for (int far : FAR) {
            if (far < 0 || far >= many) {
                asks.accept(far);
            }
        }
    }

    /** The fraction told latest, after a call that answered true. */
    void fraction(String what, MossSeats x, boolean got, long top, long bottom) {
        due(what, got, true);
        due(what + ", STATUS", x.status(), 0);
        due(what + ", top", x.top(), top);
        due(what + ", bottom", x.bottom(), bottom);
    }

    /** A call that is refused answers NONE, sets its STATUS, and changes nothing else that can be seen at once. */
    void refused(String what, MossSeats x, int status, IntSupplier call) {
        String before = seen(x);
        due(what, call.getAsInt(), MossSeats.NONE);
        due(what + ", STATUS", x.status(), status);
        due(what + " left all as it was", seen(x).equals(before), true);
    }

    void refusedNo(String what, MossSeats x, int status, BooleanSupplier call) {
        refused(what, x, status, () -> call.getAsBoolean() ? 1 : MossSeats.NONE);
    }

    private static String seen(MossSeats x) {
        long[] seen = new long[14];
        for (int what = 0; what <= 9; what++) {
            seen[what] = x.many(what);
        }
        seen[10] = x.top();
        seen[11] = x.bottom();
        seen[12] = x.fault(0);
        seen[13] = x.fault(1);
        return Arrays.toString(seen);
    }

    static void feed(MossSeats x, String text) {
        byte[] bytes = text.getBytes(StandardCharsets.ISO_8859_1);
        byte[] row = Arrays.copyOf(bytes, (bytes.length + 19) / 20 * 20);
        for (int i = 0; i < row.length; i += 20) {
            x.feed(four(row, i), four(row, i + 4), four(row, i + 8), four(row, i + 12), four(row, i + 16));
        }
    }

    private static int four(byte[] row, int at) {
        return row[at] << 24 | (row[at + 1] & 255) << 16 | (row[at + 2] & 255) << 8 | row[at + 3] & 255;
    }

    static int wood(MossSeats x, String text) {
        feed(x, text);
        return x.wood(text.length());
    }

    static int years(MossSeats x, String text) {
        feed(x, text);
        return x.years(text.length());
    }

    /** A new object with a wood. */
    MossSeats with(String text) {
        MossSeats x = new MossSeats();
        if (wood(x, text) == MossSeats.NONE) {
            tell("FAULT " + x.fault(0) + " at " + x.fault(1) + " in " + text);
        }
        return x;
    }

    void tray(MossSeats x, int tray, long... numbers) {
        due("tray for a test", x.tray(tray, 3, numbers.length), true);
        for (int i = 0; i < numbers.length; i++) {
            x.write(tray, i, numbers[i]);
        }
    }

    void finish() {
        String told = sentences == 0 ? "" : sentences + " sentences, ";
        System.out.println(test + ": " + told + asked + " answers, " + wrong + " wrong");
        if (wrong != 0) {
            System.exit(1);
        }
    }
}
