import java.nio.charset.StandardCharsets;
import java.util.ArrayList;
import java.util.Arrays;
import java.util.List;
import java.util.Random;

/**
 * Plays runs of calls by draws (always the same ones) to the class and to PlainSeats, and compares each answer
 * and all that can be seen behind it. The texts are mostly good; a part of them is spoiled by a token or two.
 */
public final class ModelTest {
    private static final int RUNS = 1500;
    private static final int CALLS = 120;
    private static final String[] NAMES = {"a", "b", "corn", "will", "reform", "gen", "bea", "ann", "zz", "abcdefgh", "c", "d"};
    private static final String[] SPOILS = {"odds", "matter", "pace", "clear", "hold", "by", "sitter", "mile", "tall", "for",
        "weight", "news", "size", "day", "bring", "crisis", "turn", "any", "when", "down", "settled", "high", "loop", "end",
        "stop", ";", "<", ">", "=", "0", "1", "100", "101", "9999", "12345", "00000", "007", "abcdefghi", "x", "a", "corn", "?",
        "A", "\t", "\u0000", "\u00e9", ".", "{", "`"};

    private final Random random;
    private final MossSeats real = new MossSeats();
    private final PlainSeats plain = new PlainSeats();
    private final List<String> told = new ArrayList<>();
    private final List<String> matterNames = new ArrayList<>();
    private final List<String> sitterNames = new ArrayList<>();
    private static int wrong = 0;
    private static final int[] FAULTS_SEEN = new int[8];
    private static final int[] STATUS_SEEN = new int[12];

    private ModelTest(long seed) {
        random = new Random(seed);
    }

    public static void main(String[] args) {
        int first = args.length > 0 ? Integer.parseInt(args[0]) : 0;
        int runs = args.length > 1 ? Integer.parseInt(args[1]) : RUNS;
        new ModelTest(0).askAFullWood();
        for (int i = first; i < first + runs && wrong == 0; i++) {
            new ModelTest(i).play(i);
        }
        for (int kind = 0; kind < FAULTS_SEEN.length; kind++) {
            if (FAULTS_SEEN[kind] == 0) {
                wrong++;
                System.out.println("no run met FAULT " + kind);
            }
        }
        for (int status = 0; status < STATUS_SEEN.length; status++) {
            if (STATUS_SEEN[status] == 0) {
                wrong++;
                System.out.println("no run met STATUS " + status);
            }
        }
        System.out.println(wrong == 0 ? "ModelTest: all runs agree" : "ModelTest: " + wrong + " wrong");
        if (wrong != 0) {
            System.exit(1);
        }
    }

    private void play(int run) {
        if (random.nextInt(12) != 0) {
            tellWood();
        }
        for (int i = 0; i < CALLS && wrong == 0; i++) {
            int kind = random.nextInt(100);
            if (kind < 3) {
                tellWood();
            } else if (kind < 9) {
                tellYears();
            } else {
                one(random.nextInt(52));
            }
        }
        tellIfWrong("run " + run);
    }

    private void tellIfWrong(String run) {
        if (wrong != 0) {
            System.out.println(run + ":");
            told.forEach(call -> System.out.println("  " + call));
        }
    }

    /** With as many things of each kind as there may be, where an index too many would be one beyond a row. */
    private void askAFullWood() {
        String matters = "matter a pace 3;matter b pace 4 clear 9;matter c pace 7;matter d pace 9 clear 80;matter e pace 1 clear 70;matter f pace 20;";
        String holds = "hold a by b;hold b by c;hold c by d;hold a by c;hold a by d;hold e by f;hold e by d;hold f by d;hold b by d;hold f by c;";
        String sitters = "sitter s mile 3 tall 50 for a;sitter t mile 50 tall 99 for b;sitter u mile 9 tall 9 for c weight 3;sitter v mile 20 tall 60 for d;"
            + "sitter w mile 21 tall 33 for e;sitter x mile 40 tall 80 for f;sitter y mile 41 tall 70 for a weight 9;";
        String news = "news a size 60;news a size 40;news b size 91;news c size 50;news c size 50;news d size 20;news e size 30;news f size 100;";
        String text = matters + holds + sitters + news;
        feed(text);
        same("wood: " + text, real.wood(text.length()), plain.wood(text.length()));
        same("many(3)", real.many(3), 8);
        String years = "any;bring 7;when down y;crisis f 9;end;turn y f;day 3;any;";
        feed(years);
        same("years: " + years, real.years(years.length()), plain.years(years.length()));
        same("tray", real.tray(0, 3, 60), plain.tray(0, 3, 60));
        for (int round = 0; round < 3 && wrong == 0; round++) {
            lookAtAll();
            same("mean(3, 5)", real.mean(3, 5), plain.mean(3, 5));
            for (int s = 0; s < 7; s++) {
                same("ask(" + s + ", 0, 0)", real.ask(s, 0, 0), plain.ask(s, 0, 0));
                same("downIn(" + s + ")", real.downIn(s), plain.downIn(s));
                same("share(" + s + ")", real.share(s), plain.share(s));
                same("game(" + s + ", 6, 2)", real.game(s, 6, 2), plain.game(s, 6, 2));
                same("moveOf(6, " + s + ", 3)", real.moveOf(6, s, 3), plain.moveOf(6, s, 3));
            }
            same("copyHeights(0)", real.copyHeights(0), plain.copyHeights(0));
            same("leastSet(127)", real.leastSet(127), plain.leastSet(127));
            same("ring()", real.ring(), plain.ring());
            same("loosenSet()", real.loosenSet(), plain.loosenSet());
            same("waiting()", real.waiting(), plain.waiting());
            same("orderAt(5)", real.orderAt(5), plain.orderAt(5));
            same("round(30)", real.round(30), plain.round(30));
            same("clearIn(0, 200)", real.clearIn(0, 200), plain.clearIn(0, 200));
            same("live(" + round + ")", real.live(round), plain.live(round));
            same("loose(8)", real.loose(8), plain.loose(8));
            same("bind(3, 0)", real.bind(3, 0), plain.bind(3, 0));
        }
        tellIfWrong("a full wood");
    }

    private void same(String call, long got, long due) {
        told.add(call + " -> " + got);
        if (got != due) {
            wrong++;
            told.add("    due is " + due);
        }
        look("status()", real.status(), plain.status());
        look("top()", real.top(), plain.top());
        look("bottom()", real.bottom(), plain.bottom());
        look("fault(0)", real.fault(0), plain.fault(0));
        look("fault(1)", real.fault(1), plain.fault(1));
        STATUS_SEEN[plain.status()]++;
        if (plain.fault(0) > 0) {
            FAULTS_SEEN[plain.fault(0)]++;
        } else {
            FAULTS_SEEN[0]++;
        }
    }

    private void look(String call, long got, long due) {
        if (got != due) {
            wrong++;
            told.add("    " + call + " -> " + got + ", due is " + due);
        }
    }

    private void same(String call, boolean got, boolean due) {
        same(call, got ? 1 : 0, due ? 1 : 0);
    }

    private boolean odds(int percent) {
        return random.nextInt(100) < percent;
    }

    private int between(int least, int most) {
        return least + random.nextInt(most - least + 1);
    }

    /** Mostly in the bounds, at times right at them, at times beyond. */
    private int near(int least, int most) {
        int way = random.nextInt(40);
        if (way == 0) {
            return least - 1;
        } else if (way == 1) {
            return most + 1;
        } else if (way == 2) {
            return random.nextInt();
        } else if (way == 3) {
            return odds(50) ? Integer.MIN_VALUE : Integer.MAX_VALUE;
        } else if (way < 8) {
            return least;
        } else if (way < 12) {
            return most;
        }
        return between(least, most);
    }

    private String pick(List<String> names) {
        return names.isEmpty() || odds(2) ? NAMES[random.nextInt(NAMES.length)] : names.get(random.nextInt(names.size()));
    }

    private String number(int least, int most) {
        return String.valueOf(odds(1) ? most + 1 : odds(1) ? Math.max(0, least - 1) : odds(20) ? (odds(50) ? least : most) : between(least, most));
    }

    private String freeName(List<String> names) {
        List<String> free = new ArrayList<>(Arrays.asList(NAMES));
        if (!odds(2)) {
            free.removeAll(matterNames);
            free.removeAll(sitterNames);
        }
        String name = free.isEmpty() ? "y" + (char) ('a' + names.size()) : free.get(random.nextInt(free.size()));
        names.add(name);
        return name;
    }

    private void tellWood() {
        matterNames.clear();
        sitterNames.clear();
        List<String> tokens = new ArrayList<>();
        if (odds(60)) {
            tokens.addAll(List.of("odds", number(0, 16), ";"));
        }
        int matters = odds(5) ? 7 : between(odds(10) ? 0 : 2, 6);
        for (int i = 0; i < matters; i++) {
            tokens.addAll(List.of("matter", freeName(matterNames), "pace", number(odds(80) ? 1 : 0, 20)));
            if (odds(50)) {
                tokens.addAll(List.of("clear", number(0, 100)));
            }
            tokens.add(";");
        }
        List<String> told = new ArrayList<>();
        for (int i = odds(5) ? 11 : random.nextInt(7); i > 0 && matters > 1; i--) {
            String held = pick(matterNames);
            String by = pick(matterNames);
            String both = held + " " + by;
            if (!told.contains(both) && !held.equals(by) || odds(3)) {
                told.add(both);
                tokens.addAll(List.of("hold", held, "by", by, ";"));
            }
        }
        for (int i = odds(4) ? 8 : random.nextInt(6); i > 0 && matters > 0; i--) {
            tokens.addAll(List.of("sitter", freeName(sitterNames), "mile", number(0, 59), "tall", number(1, 99), "for", pick(matterNames)));
            if (odds(40)) {
                tokens.addAll(List.of("weight", number(1, 9)));
            }
            tokens.add(";");
        }
        for (int i = odds(4) ? 9 : random.nextInt(7); i > 0 && matters > 0; i--) {
            tokens.addAll(List.of("news", pick(matterNames), "size", number(1, 100), ";"));
        }
        if (odds(4)) {
            tokens.addAll(List.of("odds", "3", ";"));
        }
        String text = joined(tokens, 20);
        feed(text);
        same("wood: " + text, real.wood(text.length()), plain.wood(text.length()));
    }

    private void tellYears() {
        List<String> tokens = new ArrayList<>();
        int open = 0;
        for (int i = odds(4) ? 31 : random.nextInt(16); i > 0; i--) {
            open += tellStep(tokens, odds(2) ? 0 : open);
            if (open > 0 && odds(35)) {
                tokens.addAll(List.of("end", ";"));
                open--;
            }
        }
        for (; open > 0 && !odds(2); open--) {
            tokens.addAll(List.of("end", ";"));
        }
        if (odds(1)) {
            tokens.addAll(List.of("end", ";"));
        }
        String text = joined(tokens, 20);
        feed(text);
        same("years: " + text, real.years(text.length()), plain.years(text.length()));
        if (odds(70)) {
            int seed = near(0, 9999);
            same("live(" + seed + ")", real.live(seed), plain.live(seed));
            for (int what = 0; what <= 4; what++) {
                same("lived(" + what + ")", real.lived(what), plain.lived(what));
            }
            lookAtAll();
        }
    }

    private int tellStep(List<String> tokens, int open) {
        switch (random.nextInt(open >= 3 ? 6 : 9)) {
            case 0:
                tokens.addAll(List.of("day", number(1, odds(90) ? 5 : 40), ";"));
                return 0;
            case 1:
                tokens.addAll(List.of("bring", number(0, 7), ";"));
                return 0;
            case 2:
                tokens.addAll(List.of("crisis", pick(matterNames), number(1, 100), ";"));
                return 0;
            case 3:
                tokens.addAll(List.of("turn", pick(sitterNames), pick(matterNames), ";"));
                return 0;
            case 4:
                tokens.addAll(List.of("any", ";"));
                return 0;
            case 5:
                tokens.addAll(List.of(odds(15) ? "stop" : "any", ";"));
                return 0;
            case 6:
                tokens.addAll(List.of("loop", number(1, odds(70) ? 5 : 99), ";"));
                return 1;
            case 7:
                tokens.addAll(odds(50) ? List.of("when", "down", pick(sitterNames), ";") : List.of("when", "settled", pick(matterNames), ";"));
                return 1;
            default:
                tokens.addAll(List.of("when", "high", pick(sitterNames), List.of("<", ">", "=").get(random.nextInt(3)), number(0, 99), ";"));
                return 1;
        }
    }

    private String joined(List<String> tokens, int spoiled) {
        if (odds(spoiled)) {
            for (int i = between(1, 2); i > 0 && !tokens.isEmpty(); i--) {
                int at = random.nextInt(tokens.size());
                String spoil = SPOILS[random.nextInt(SPOILS.length)];
                switch (random.nextInt(4)) {
                    case 0 -> tokens.remove(at);
                    case 1 -> tokens.set(at, spoil);
                    case 2 -> tokens.add(at, spoil);
                    default -> tokens.subList(at, tokens.size()).clear();
                }
            }
        }
        StringBuilder text = new StringBuilder();
        for (String token : tokens) {
            boolean needsBlank = text.length() > 0 && isLetter(text.charAt(text.length() - 1)) && isLetter(token.charAt(0));
            if (needsBlank || odds(15)) {
                text.append(odds(80) ? " " : odds(50) ? "\n" : " \n ");
            }
            text.append(token);
        }
        if (odds(10)) {
            text.append(odds(50) ? " " : "\n\n");
        }
        return text.toString();
    }

    private static boolean isLetter(char c) {
        return c >= 'a' && c <= 'z';
    }

    private void feed(String text) {
        byte[] bytes = Arrays.copyOf(text.getBytes(StandardCharsets.ISO_8859_1), (text.length() + 19) / 20 * 20);
        for (int i = 0; i < bytes.length; i += 20) {
            int[] five = new int[5];
            for (int k = 0; k < 20; k++) {
                five[k / 4] = five[k / 4] << 8 | bytes[i + k] & 255;
            }
            same("feed", real.feed(five[0], five[1], five[2], five[3], five[4]), plain.feed(five[0], five[1], five[2], five[3], five[4]));
        }
    }

    private void lookAtAll() {
        for (int what = 0; what <= 9; what++) {
            same("many(" + what + ")", real.many(what), plain.many(what));
        }
        for (int m = 0; m < 6; m++) {
            same("matter(" + m + ", 0)", real.matter(m, 0), plain.matter(m, 0));
        }
        for (int s = 0; s < 7; s++) {
            same("sitter(" + s + ", 2)", real.sitter(s, 2), plain.sitter(s, 2));
            same("sitter(" + s + ", 4)", real.sitter(s, 4), plain.sitter(s, 4));
        }
    }

    private int matter() {
        return near(0, Math.max(0, matterNames.size() - 1));
    }

    private int sitter() {
        return near(0, odds(90) ? Math.max(0, sitterNames.size() - 1) : 6);
    }

    private int tray() {
        return near(0, 3);
    }

    private int layTwos() {
        int tray = between(0, 3);
        int sort = between(0, 3);
        int many = between(0, 8);
        int n = odds(5) ? near(0, 20) : many / 2;
        same("tray(" + tray + ", " + sort + ", " + many + ")", real.tray(tray, sort, many), plain.tray(tray, sort, many));
        int sitter = between(0, Math.max(0, sitterNames.size() - 1));
        for (int i = 0; i < many; i++) {
            long v = i % 2 == 0 ? near(0, odds(90) ? 12 : 40) : near(0, 99);
            if (i % 2 == 1 && odds(75)) {
                v = Math.max(0, plain.heightIn(sitter, (int) plain.read(tray, i - 1)));
                real.heightIn(sitter, (int) real.read(tray, i - 1));
            }
            same("write(" + tray + ", " + i + ", " + v + ")", real.write(tray, i, v), plain.write(tray, i, v));
        }
        twosTray = tray;
        return n;
    }

    private int twosTray;

    private void one(int what) {
        switch (what) {
            case 0 -> {
                int t = tray();
                int sort = near(0, 3);
                int many = near(0, 60);
                same("tray(" + t + ", " + sort + ", " + many + ")", real.tray(t, sort, many), plain.tray(t, sort, many));
            }
            case 1, 2 -> {
                int t = tray();
                int place = near(0, 12);
                long v = odds(50) ? random.nextLong() : near(-200, 200);
                same("write(" + t + ", " + place + ", " + v + ")", real.write(t, place, v), plain.write(t, place, v));
                same("read(" + t + ", " + place + ")", real.read(t, place), plain.read(t, place));
            }
            case 3 -> {
                int t = tray();
                int place = near(0, 60);
                same("read(" + t + ", " + place + ")", real.read(t, place), plain.read(t, place));
            }
            case 4 -> pour();
            case 5 -> {
                int n = odds(50) ? near(0, 20) : near(0, 320);
                same("wood(" + n + ")", real.wood(n), plain.wood(n));
                same("years(" + n + ")", real.years(n), plain.years(n));
            }
            case 6 -> {
                int w = near(0, 9);
                same("many(" + w + ")", real.many(w), plain.many(w));
            }
            case 7 -> {
                int m = matter();
                int w = near(0, 4);
                same("matter(" + m + ", " + w + ")", real.matter(m, w), plain.matter(m, w));
            }
            case 8 -> {
                int h = near(0, 9);
                int w = near(0, 1);
                same("hold(" + h + ", " + w + ")", real.hold(h, w), plain.hold(h, w));
            }
            case 9 -> {
                int s = sitter();
                int w = near(0, 4);
                same("sitter(" + s + ", " + w + ")", real.sitter(s, w), plain.sitter(s, w));
            }
            case 10 -> {
                int n = near(0, 7);
                int w = near(0, 2);
                same("news(" + n + ", " + w + ")", real.news(n, w), plain.news(n, w));
            }
            case 11 -> {
                int t = tray();
                same("copyHeights(" + t + ")", real.copyHeights(t), plain.copyHeights(t));
                for (int i = 0; i < 7; i++) {
                    same("read(" + t + ", " + i + ")", real.read(t, i), plain.read(t, i));
                }
            }
            default -> change(what);
        }
    }

    private void pour() {
        int t = tray();
        int i = near(0, 10);
        int to = odds(40) ? t : tray();
        int j = near(0, 10);
        int many = near(0, 8);
        same("pour(" + t + ", " + i + ", " + to + ", " + j + ", " + many + ")", real.pour(t, i, to, j, many), plain.pour(t, i, to, j, many));
        for (int k = 0; k < 20; k++) {
            same("read(" + to + ", " + k + ")", real.read(to, k), plain.read(to, k));
        }
    }

    private void change(int what) {
        switch (what) {
            case 12, 13 -> {
                int days = odds(80) ? near(1, 8) : near(1, 999);
                same("day(" + days + ")", real.day(days), plain.day(days));
            }
            case 14, 15 -> {
                int n = near(0, 5);
                same("bring(" + n + ")", real.bring(n), plain.bring(n));
            }
            case 16, 17 -> {
                int m = matter();
                int much = near(1, 100);
                same("crisis(" + m + ", " + much + ")", real.crisis(m, much), plain.crisis(m, much));
            }
            case 18 -> {
                int s = sitter();
                int m = matter();
                same("turn(" + s + ", " + m + ")", real.turn(s, m), plain.turn(s, m));
            }
            case 19 -> {
                int mile = near(0, 59);
                int tall = near(1, 99);
                int m = matter();
                same("sit(" + mile + ", " + tall + ", " + m + ")", real.sit(mile, tall, m), plain.sit(mile, tall, m));
            }
            case 20 -> {
                int m = matter();
                int size = near(1, 100);
                same("hear(" + m + ", " + size + ")", real.hear(m, size), plain.hear(m, size));
            }
            case 21 -> {
                int m = matter();
                int by = matter();
                same("bind(" + m + ", " + by + ")", real.bind(m, by), plain.bind(m, by));
            }
            case 22 -> {
                int h = near(0, 4);
                same("loose(" + h + ")", real.loose(h), plain.loose(h));
            }
            case 23 -> {
                int m = matter();
                int pace = near(0, 20);
                same("hurry(" + m + ", " + pace + ")", real.hurry(m, pace), plain.hurry(m, pace));
            }
            case 24 -> {
                int odds = near(0, 16);
                same("rule(" + odds + ")", real.rule(odds), plain.rule(odds));
            }
            case 25 -> same("mark()", real.mark(), plain.mark());
            case 26 -> {
                same("back()", real.back(), plain.back());
                lookAtAll();
            }
            case 27 -> lookAtAll();
            default -> foretell(what);
        }
    }

    private void foretell(int what) {
        int sitters = near(0, (1 << sitterNames.size()) - 1);
        switch (what) {
            case 28 -> {
                int m = matter();
                int days = odds(80) ? near(0, 20) : near(0, 200);
                same("clearIn(" + m + ", " + days + ")", real.clearIn(m, days), plain.clearIn(m, days));
            }
            case 29 -> {
                int s = sitter();
                int days = odds(80) ? near(0, 20) : near(0, 200);
                same("heightIn(" + s + ", " + days + ")", real.heightIn(s, days), plain.heightIn(s, days));
            }
            case 30 -> {
                int s = sitter();
                same("downIn(" + s + ")", real.downIn(s), plain.downIn(s));
            }
            case 31, 32 -> {
                same("least(" + sitters + ")", real.least(sitters), plain.least(sitters));
                same("leastSet(" + sitters + ")", real.leastSet(sitters), plain.leastSet(sitters));
            }
            case 33, 34 -> {
                same("ring()", real.ring(), plain.ring());
                same("loosen()", real.loosen(), plain.loosen());
                same("loosenSet()", real.loosenSet(), plain.loosenSet());
            }
            case 35, 36 -> {
                same("waiting()", real.waiting(), plain.waiting());
                int k = near(0, 5);
                same("orderAt(" + k + ")", real.orderAt(k), plain.orderAt(k));
                for (int i = 0; i <= 6; i++) {
                    same("orderAt(" + i + ")", real.orderAt(i), plain.orderAt(i));
                }
            }
            case 37 -> {
                int mile = near(0, 59);
                same("round(" + mile + ")", real.round(mile), plain.round(mile));
            }
            default -> reckon(what);
        }
    }

    private void reckon(int what) {
        int s = sitter();
        int other = sitter();
        int turns = near(0, odds(30) ? 4 : 3);
        switch (what) {
            case 38, 39 -> {
                int n = layTwos();
                int t = odds(95) ? twosTray : tray();
                same("out(" + s + ", " + t + ", " + n + ")", real.out(s, t, n), plain.out(s, t, n));
                same("ask(" + s + ", " + t + ", " + n + ")", real.ask(s, t, n), plain.ask(s, t, n));
                same("out(" + s + ", " + t + ", 0)", real.out(s, t, 0), plain.out(s, t, 0));
                same("ask(" + s + ", " + t + ", 0)", real.ask(s, t, 0), plain.ask(s, t, 0));
            }
            case 40 -> laws();
            case 41, 42 -> {
                int height = odds(50) ? near(0, 99) : between(0, 12);
                int days = near(0, 8);
                same("off(" + height + ", " + days + ")", real.off(height, days), plain.off(height, days));
                same("stay(" + height + ", " + days + ")", real.stay(height, days), plain.stay(height, days));
            }
            case 43, 44 -> {
                same("game(" + s + ", " + other + ", " + turns + ")", real.game(s, other, turns), plain.game(s, other, turns));
                same("moveOf(" + s + ", " + other + ", " + turns + ")", real.moveOf(s, other, turns), plain.moveOf(s, other, turns));
            }
            case 45 -> {
                int n = near(0, 12);
                same("lasts(" + n + ")", real.lasts(n), plain.lasts(n));
            }
            case 46 -> same("share(" + s + ")", real.share(s), plain.share(s));
            case 47 -> {
                int w = near(0, 4);
                same("lived(" + w + ")", real.lived(w), plain.lived(w));
            }
            case 48, 49 -> {
                int seed = near(0, 9999);
                int many = near(1, odds(10) ? 20 : 4);
                same("mean(" + seed + ", " + many + ")", real.mean(seed, many), plain.mean(seed, many));
            }
            default -> {
                int seed = near(0, 9999);
                same("live(" + seed + ")", real.live(seed), plain.live(seed));
                lookAtAll();
            }
        }
    }

    private void laws() {
        int tray = between(0, 3);
        int twos = between(0, 3);
        int tall = between(1, 99);
        int pace = between(0, 20);
        same("tray(" + tray + ", 3, " + 2 * twos + ")", real.tray(tray, 3, 2 * twos), plain.tray(tray, 3, 2 * twos));
        for (int i = 0; i < twos; i++) {
            int days = near(0, 40);
            long height = odds(10) ? near(0, 99) : tall * (100 - Math.min(100L, (long) pace * Math.max(0, days))) / 100;
            same("write(" + tray + ", " + 2 * i + ", " + days + ")", real.write(tray, 2 * i, days), plain.write(tray, 2 * i, days));
            same("write(" + tray + ", " + (2 * i + 1) + ", " + height + ")", real.write(tray, 2 * i + 1, height), plain.write(tray, 2 * i + 1, height));
        }
        int n = odds(90) ? twos : near(0, 20);
        int w = near(0, 1);
        same("laws(" + tray + ", " + n + ")", real.laws(tray, n), plain.laws(tray, n));
        same("lawOf(" + tray + ", " + n + ", " + w + ")", real.lawOf(tray, n, w), plain.lawOf(tray, n, w));
    }
}
