import java.math.BigInteger;
import java.util.ArrayList;
import java.util.Arrays;
import java.util.Comparator;
import java.util.LinkedHashMap;
import java.util.List;
import java.util.Map;
import java.util.TreeMap;
import java.util.function.IntPredicate;
import java.util.function.Supplier;
import java.util.regex.Matcher;
import java.util.regex.Pattern;

/**
 * The document told a second time, without a thought for speed or room and with the whole library, so that
 * ModelTest can hold the class against it. It shares no line with the class: where one of them misreads
 * its own words, the other most likely doesn't.
 */
final class PlainSeats {
    /** A call that the document gives another STATUS than 0. */
    private static final class Refused extends RuntimeException {
        private static final long serialVersionUID = 1L;
        final int status;

        Refused(int status) {
            super("status " + status, null, false, false);
            this.status = status;
        }
    }

    private static final class Fault extends RuntimeException {
        private static final long serialVersionUID = 1L;
        final int kind;
        final int place;

        Fault(int kind, int place) {
            super("fault " + kind + " at " + place, null, false, false);
            this.kind = kind;
            this.place = place;
        }
    }

    private static final class Stop extends RuntimeException {
        private static final long serialVersionUID = 1L;

        Stop() {
            super("stop", null, false, false);
        }
    }

    private static void unless(boolean holds, int status) {
        if (!holds) {
            throw new Refused(status);
        }
    }

    private record Hold(int held, int by) { }

    private record Token(String word, int place) {
        boolean isNumber() {
            return !word.isEmpty() && Character.isDigit(word.charAt(0));
        }

        boolean isName() {
            return word.matches("[a-z]{1,8}") && !RESERVED.contains(word);
        }
    }

    private static final List<String> RESERVED = List.of("odds", "matter", "pace", "clear", "hold", "by", "sitter",
        "mile", "tall", "for", "weight", "news", "size", "day", "bring", "crisis", "turn", "any", "when", "down",
        "settled", "high", "loop", "end", "stop");

    private static final class Step {
        String verb;
        String test;
        int who;
        String sign;
        int number;
        List<Step> inside;
    }

    /** What MARKS keep. */
    private static final class State {
        int odds = 4;
        int day;
        List<String> matterNames = new ArrayList<>();
        List<int[]> matters = new ArrayList<>(); // pace, clear
        List<Hold> holds = new ArrayList<>();
        List<String> sitterNames = new ArrayList<>();
        List<int[]> sitters = new ArrayList<>(); // mile, tall, matter, weight
        List<int[]> news = new ArrayList<>(); // matter, size, came
        List<Step> years;
        int steps;

        State copy() {
            State s = new State();
            s.odds = odds;
            s.day = day;
            s.matterNames.addAll(matterNames);
            matters.forEach(m -> s.matters.add(m.clone()));
            s.holds.addAll(holds);
            s.sitterNames.addAll(sitterNames);
            sitters.forEach(m -> s.sitters.add(m.clone()));
            news.forEach(m -> s.news.add(m.clone()));
            s.years = years;
            s.steps = steps;
            return s;
        }

        boolean settled(int m) {
            return matters.get(m)[1] == 100;
        }

        boolean stuck(int m) {
            return !settled(m) && holds.stream().anyMatch(h -> h.held == m && !settled(h.by));
        }

        int height(int s) {
            return heightFor(s, sitters.get(s)[2]);
        }

        int heightFor(int s, int m) {
            return (int) Math.floor(sitters.get(s)[1] * (100 - matters.get(m)[1]) / 100.0 + 1e-9);
        }

        State oneDay() {
            State next = copy();
            for (int m = 0; m < matters.size(); m++) {
                if (!settled(m) && !stuck(m)) {
                    next.matters.get(m)[1] = Math.min(100, matters.get(m)[1] + matters.get(m)[0]);
                }
            }
            next.day++;
            return next;
        }

        State after(int days) {
            State s = this;
            for (int i = 0; i < days; i++) {
                s = s.oneDay();
            }
            return s;
        }

        boolean canBring(int n) {
            return n < news.size() && news.get(n)[2] == 0 && !settled(news.get(n)[0]);
        }

        void bring(int n) {
            int[] what = news.get(n);
            int[] of = matters.get(what[0]);
            of[1] = Math.min(100, of[1] + what[1]);
            what[2] = 1;
        }

        int set(int many, IntPredicate in) {
            int set = 0;
            for (int i = 0; i < many; i++) {
                if (in.test(i)) {
                    set += 1 << i;
                }
            }
            return set;
        }

        int downs() {
            return set(sitters.size(), s -> height(s) == 0);
        }

        int heights() {
            int sum = 0;
            for (int s = 0; s < sitters.size(); s++) {
                sum += height(s);
            }
            return sum;
        }

        int load(int m) {
            int[] of = matters.get(m);
            if (of[1] == 100) {
                return 0;
            }
            if (of[0] == 0) {
                return -1;
            }
            int days = 0;
            for (int clear = of[1]; clear < 100; clear += of[0]) {
                days++;
            }
            return days;
        }
    }

    private State now = new State();
    private final List<State> marks = new ArrayList<>();
    private final long[][] trays = new long[4][];
    private final int[] sorts = new int[4];
    private final StringBuilder tape = new StringBuilder();
    private int status = 0;
    private BigInteger top = BigInteger.ZERO;
    private BigInteger bottom = BigInteger.ONE;
    private int faultKind = -1;
    private int faultPlace = -1;
    private int[] lived;

    private interface IntWork {
        long work();
    }

    private long call(IntWork work) {
        try {
            long answer = work.work();
            status = 0;
            return answer;
        } catch (Refused refused) {
            status = refused.status;
            return -1;
        }
    }

    private int callInt(IntWork work) {
        return (int) call(work);
    }

    private boolean callYes(Runnable work) {
        return call(() -> {
            work.run();
            return 1;
        }) == 1;
    }

    int status() {
        return status;
    }

    long top() {
        return top.longValueExact();
    }

    long bottom() {
        return bottom.longValueExact();
    }

    private void fraction(BigInteger a, BigInteger b) {
        BigInteger gcd = a.gcd(b);
        top = a.divide(gcd);
        bottom = b.divide(gcd);
    }

    private void thereIsTray(int tray) {
        unless(tray >= 0 && tray <= 3, 1);
    }

    boolean tray(int tray, int sort, int many) {
        return callYes(() -> {
            thereIsTray(tray);
            unless(sort >= 0 && sort <= 3, 1);
            unless(many <= 60, 5);
            unless(many >= 0, 6);
            trays[tray] = new long[many];
            sorts[tray] = sort;
        });
    }

    private static long cut(int sort, long v) {
        int bits = 8 << sort;
        return v << (64 - bits) >> (64 - bits);
    }

    private void placed(int tray, int place) {
        thereIsTray(tray);
        unless(trays[tray] != null, 3);
        unless(place >= 0 && place < trays[tray].length, 4);
    }

    boolean write(int tray, int place, long v) {
        return callYes(() -> {
            placed(tray, place);
            trays[tray][place] = cut(sorts[tray], v);
        });
    }

    long read(int tray, int place) {
        return call(() -> {
            placed(tray, place);
            return trays[tray][place];
        });
    }

    boolean pour(int tray, int i, int to, int j, int many) {
        return callYes(() -> {
            thereIsTray(tray);
            thereIsTray(to);
            unless(trays[tray] != null && trays[to] != null, 3);
            unless(sorts[tray] == sorts[to], 11);
            unless(many >= 0, 6);
            unless(i >= 0 && (long) i + many <= trays[tray].length, 4);
            unless(j >= 0 && (long) j + many <= trays[to].length, 4);
            long[] old = trays[tray].clone();
            for (int k = 0; k < many; k++) {
                trays[to][j + k] = old[i + k];
            }
        });
    }

    int feed(int a, int b, int c, int d, int e) {
        if (tape.length() + 20 > 900) {
            return -1;
        }
        for (int v : new int[] {a, b, c, d, e}) {
            tape.append((char) (v >>> 24)).append((char) (v >> 16 & 255)).append((char) (v >> 8 & 255)).append((char) (v & 255));
        }
        return tape.length();
    }

    int fault(int what) {
        return what == 0 ? faultKind : what == 1 ? faultPlace : -1;
    }

    private String takeText(int n, int most) {
        unless(n >= 0 && n <= tape.length() && n <= most, 5);
        String text = tape.substring(0, n);
        tape.setLength(0);
        return text;
    }

    private long readText(Supplier<Integer> reader) {
        try {
            int answer = reader.get();
            faultKind = 0;
            faultPlace = -1;
            return answer;
        } catch (Fault fault) {
            faultKind = fault.kind;
            faultPlace = fault.place;
            throw new Refused(10);
        }
    }

    /** The tokens of a text, one by one; a place where none begins is a fault as it is come to. */
    private static final class Scanner {
        private static final Pattern TOKEN = Pattern.compile("[a-z]+|[0-9]+|[;<>=]");
        final String text;
        int at;
        Token token;

        Scanner(String text) {
            this.text = text;
        }

        Token peek() {
            if (token != null) {
                return token;
            }
            while (at < text.length() && (text.charAt(at) == ' ' || text.charAt(at) == '\n')) {
                at++;
            }
            if (at == text.length()) {
                token = new Token("", at);
                return token;
            }
            Matcher m = TOKEN.matcher(text).region(at, text.length());
            if (!m.lookingAt() || Character.isDigit(m.group().charAt(0)) && m.group().length() > 4) {
                throw new Fault(1, at);
            }
            token = new Token(m.group(), at);
            at = m.end();
            return token;
        }

        boolean ends() {
            return peek().word.isEmpty();
        }

        Token next() {
            Token t = peek();
            token = null;
            return t;
        }

        Token word(String... words) {
            Token t = next();
            if (!Arrays.asList(words).contains(t.word)) {
                throw new Fault(2, t.place);
            }
            return t;
        }

        int number(int least, int most) {
            Token t = next();
            if (!t.isNumber()) {
                throw new Fault(2, t.place);
            }
            int n = Integer.parseInt(t.word);
            if (n < least || n > most) {
                throw new Fault(4, t.place);
            }
            return n;
        }

        Token name() {
            Token t = next();
            if (!t.isName()) {
                throw new Fault(2, t.place);
            }
            return t;
        }

        int old(List<String> names) {
            Token t = name();
            int i = names.indexOf(t.word);
            if (i < 0) {
                throw new Fault(3, t.place);
            }
            return i;
        }

        String fresh(State s) {
            Token t = name();
            if (s.matterNames.contains(t.word) || s.sitterNames.contains(t.word)) {
                throw new Fault(3, t.place);
            }
            return t.word;
        }
    }

    private static void full(boolean is, Token at) {
        if (is) {
            throw new Fault(6, at.place);
        }
    }

    private static State readWood(String text) {
        State s = new State();
        Scanner in = new Scanner(text);
        boolean odds = false;
        while (!in.ends()) {
            Token part = in.word("odds", "matter", "hold", "sitter", "news");
            switch (part.word) {
                case "odds" -> {
                    if (odds) {
                        throw new Fault(5, part.place);
                    }
                    odds = true;
                    s.odds = in.number(0, 16);
                }
                case "matter" -> {
                    full(s.matters.size() == 6, part);
                    String name = in.fresh(s);
                    in.word("pace");
                    int[] matter = {in.number(0, 20), 0};
                    if (in.peek().word.equals("clear")) {
                        in.next();
                        matter[1] = in.number(0, 100);
                    }
                    s.matterNames.add(name);
                    s.matters.add(matter);
                }
                case "hold" -> {
                    full(s.holds.size() == 10, part);
                    int held = in.old(s.matterNames);
                    in.word("by");
                    int place = in.peek().place;
                    Hold hold = new Hold(held, in.old(s.matterNames));
                    if (hold.held == hold.by || s.holds.contains(hold)) {
                        throw new Fault(5, place);
                    }
                    s.holds.add(hold);
                }
                case "sitter" -> {
                    full(s.sitters.size() == 7, part);
                    String name = in.fresh(s);
                    in.word("mile");
                    int mile = in.number(0, 59);
                    in.word("tall");
                    int tall = in.number(1, 99);
                    in.word("for");
                    int matter = in.old(s.matterNames);
                    int weight = 1;
                    if (in.peek().word.equals("weight")) {
                        in.next();
                        weight = in.number(1, 9);
                    }
                    s.sitterNames.add(name);
                    s.sitters.add(new int[] {mile, tall, matter, weight});
                }
                default -> {
                    full(s.news.size() == 8, part);
                    int matter = in.old(s.matterNames);
                    in.word("size");
                    s.news.add(new int[] {matter, in.number(1, 100), 0});
                }
            }
            in.word(";");
        }
        return s;
    }

    int wood(int n) {
        return callInt(() -> {
            String text = takeText(n, 900);
            return readText(() -> {
                now = readWood(text);
                return now.sitters.size();
            });
        });
    }

    private int[] stepsTold;

    private List<Step> readSteps(Scanner in, int depth) {
        List<Step> steps = new ArrayList<>();
        while (!(depth == 0 ? in.ends() : in.peek().word.equals("end"))) {
            Token verb = in.word("day", "bring", "crisis", "turn", "any", "when", "loop", "stop");
            full(stepsTold[0] == 30, verb);
            stepsTold[0]++;
            if (depth == 3 && (verb.word.equals("when") || verb.word.equals("loop"))) {
                throw new Fault(7, verb.place);
            }
            steps.add(readStep(in, verb.word, depth));
            in.word(";");
        }
        return steps;
    }

    private Step readStep(Scanner in, String verb, int depth) {
        Step step = new Step();
        step.verb = verb;
        switch (verb) {
            case "day" -> step.number = in.number(1, 40);
            case "bring" -> step.number = in.number(0, 7);
            case "crisis" -> {
                step.who = in.old(now.matterNames);
                step.number = in.number(1, 100);
            }
            case "turn" -> {
                step.who = in.old(now.sitterNames);
                step.number = in.old(now.matterNames);
            }
            case "when" -> {
                step.test = in.word("down", "settled", "high").word;
                step.who = in.old(step.test.equals("settled") ? now.matterNames : now.sitterNames);
                if (step.test.equals("high")) {
                    step.sign = in.word("<", ">", "=").word;
                    step.number = in.number(0, 99);
                }
            }
            case "loop" -> step.number = in.number(1, 99);
            default -> { }
        }
        if (verb.equals("when") || verb.equals("loop")) {
            in.word(";");
            step.inside = readSteps(in, depth + 1);
            in.word("end");
        }
        return step;
    }

    int years(int n) {
        return callInt(() -> {
            String text = takeText(n, 300);
            return readText(() -> {
                stepsTold = new int[1];
                List<Step> steps = readSteps(new Scanner(text), 0);
                now.years = steps;
                now.steps = stepsTold[0];
                return now.steps;
            });
        });
    }

    int many(int what) {
        return callInt(() -> switch (what) {
            case 0 -> now.matters.size();
            case 1 -> now.holds.size();
            case 2 -> now.sitters.size();
            case 3 -> now.news.size();
            case 4 -> now.odds;
            case 5 -> now.day;
            case 6 -> now.set(now.matters.size(), now::settled);
            case 7 -> now.set(now.matters.size(), now::stuck);
            case 8 -> now.downs();
            case 9 -> now.set(now.news.size(), i -> now.news.get(i)[2] == 1);
            default -> throw new Refused(5);
        });
    }

    private void thereIs(int i, List<?> list) {
        unless(i >= 0 && i < list.size(), 2);
    }

    private static void among(int i, int least, int most) {
        unless(i >= least && i <= most, 5);
    }

    int matter(int m, int what) {
        return callInt(() -> {
            thereIs(m, now.matters);
            among(what, 0, 4);
            if (what == 4) {
                unless(now.load(m) >= 0, 8);
            }
            return switch (what) {
                case 0 -> now.matters.get(m)[1];
                case 1 -> now.matters.get(m)[0];
                case 2 -> now.set(now.matters.size(), by -> now.holds.contains(new Hold(m, by)));
                case 3 -> now.set(now.sitters.size(), s -> now.sitters.get(s)[2] == m);
                default -> now.load(m);
            };
        });
    }

    int hold(int h, int what) {
        return callInt(() -> {
            thereIs(h, now.holds);
            among(what, 0, 1);
            return what == 0 ? now.holds.get(h).held : now.holds.get(h).by;
        });
    }

    int sitter(int s, int what) {
        return callInt(() -> {
            thereIs(s, now.sitters);
            among(what, 0, 4);
            return what == 4 ? now.height(s) : now.sitters.get(s)[what];
        });
    }

    int news(int n, int what) {
        return callInt(() -> {
            thereIs(n, now.news);
            among(what, 0, 2);
            return now.news.get(n)[what];
        });
    }

    int copyHeights(int tray) {
        return callInt(() -> {
            thereIsTray(tray);
            unless(trays[tray] != null, 3);
            unless(trays[tray].length >= now.sitters.size(), 4);
            for (int s = 0; s < now.sitters.size(); s++) {
                trays[tray][s] = cut(sorts[tray], now.height(s));
            }
            return now.sitters.size();
        });
    }

    int day(int days) {
        return callInt(() -> {
            among(days, 1, 999);
            unless(now.day + days <= 9999, 7);
            now = now.after(days);
            return now.downs();
        });
    }

    int bring(int n) {
        return callInt(() -> {
            thereIs(n, now.news);
            unless(now.canBring(n), 9);
            now.bring(n);
            return now.matters.get(now.news.get(n)[0])[1];
        });
    }

    int crisis(int m, int much) {
        return callInt(() -> {
            thereIs(m, now.matters);
            among(much, 1, 100);
            int[] of = now.matters.get(m);
            unless(of[1] != 0, 9);
            of[1] = Math.max(0, of[1] - much);
            return of[1];
        });
    }

    int turn(int s, int m) {
        return callInt(() -> {
            thereIs(s, now.sitters);
            thereIs(m, now.matters);
            unless(now.sitters.get(s)[2] != m, 9);
            now.sitters.get(s)[2] = m;
            return now.height(s);
        });
    }

    int sit(int mile, int tall, int m) {
        return callInt(() -> {
            thereIs(m, now.matters);
            among(mile, 0, 59);
            among(tall, 1, 99);
            unless(now.sitters.size() < 7, 7);
            now.sitterNames.add("#" + now.sitters.size());
            now.sitters.add(new int[] {mile, tall, m, 1});
            return now.sitters.size() - 1;
        });
    }

    int hear(int m, int size) {
        return callInt(() -> {
            thereIs(m, now.matters);
            among(size, 1, 100);
            unless(now.news.size() < 8, 7);
            now.news.add(new int[] {m, size, 0});
            return now.news.size() - 1;
        });
    }

    int bind(int m, int by) {
        return callInt(() -> {
            thereIs(m, now.matters);
            thereIs(by, now.matters);
            unless(m != by, 5);
            unless(now.holds.size() < 10, 7);
            unless(!now.holds.contains(new Hold(m, by)), 9);
            now.holds.add(new Hold(m, by));
            return now.holds.size() - 1;
        });
    }

    int loose(int h) {
        return callInt(() -> {
            thereIs(h, now.holds);
            now.holds.remove(h);
            return now.holds.size();
        });
    }

    int hurry(int m, int pace) {
        return callInt(() -> {
            thereIs(m, now.matters);
            among(pace, 0, 20);
            int old = now.matters.get(m)[0];
            now.matters.get(m)[0] = pace;
            return old;
        });
    }

    boolean rule(int odds) {
        return callYes(() -> {
            among(odds, 0, 16);
            now.odds = odds;
        });
    }

    int clearIn(int m, int days) {
        return callInt(() -> {
            thereIs(m, now.matters);
            among(days, 0, 200);
            return now.after(days).matters.get(m)[1];
        });
    }

    int heightIn(int s, int days) {
        return callInt(() -> {
            thereIs(s, now.sitters);
            among(days, 0, 200);
            return now.after(days).height(s);
        });
    }

    int downIn(int s) {
        return callInt(() -> {
            thereIs(s, now.sitters);
            State then = now;
            for (int days = 0; days <= 200; days++) {
                if (then.height(s) == 0) {
                    return days;
                }
                then = then.oneDay();
            }
            throw new Refused(8);
        });
    }

    private int leastNews(int sitters) {
        among(sitters, 0, (1 << now.sitters.size()) - 1);
        List<Integer> sets = new ArrayList<>();
        for (int set = 0; set < 1 << now.news.size(); set++) {
            sets.add(set);
        }
        sets.sort(Comparator.<Integer>comparingInt(Integer::bitCount).thenComparing(Comparator.naturalOrder()));
        for (int set : sets) {
            State then = now.copy();
            boolean may = true;
            for (int n = 0; n < now.news.size(); n++) {
                if ((set & 1 << n) != 0) {
                    may &= now.canBring(n);
                    then.bring(n);
                }
            }
            if (may && (then.downs() & sitters) == sitters) {
                return set;
            }
        }
        throw new Refused(8);
    }

    int least(int sitters) {
        return callInt(() -> Integer.bitCount(leastNews(sitters)));
    }

    int leastSet(int sitters) {
        return callInt(() -> leastNews(sitters));
    }

    /** The shortest way from one matter to another by holds, by looking at all ways; 99 without one. */
    private int way(int from, int to, int without, int seen) {
        int best = 99;
        for (int h = 0; h < now.holds.size(); h++) {
            Hold hold = now.holds.get(h);
            if (hold.held == from && (without & 1 << h) == 0) {
                if (hold.by == to) {
                    return 1;
                }
                if ((seen & 1 << hold.by) == 0) {
                    best = Math.min(best, 1 + way(hold.by, to, without, seen | 1 << hold.by));
                }
            }
        }
        return best;
    }

    private int shortest(int without) {
        int best = 99;
        for (int m = 0; m < now.matters.size(); m++) {
            best = Math.min(best, way(m, m, without, 1 << m));
        }
        return best;
    }

    int ring() {
        return callInt(() -> {
            int length = shortest(0);
            unless(length < 99, 8);
            return length;
        });
    }

    private int loosening() {
        int best = -1;
        for (int set = 0; set < 1 << now.holds.size(); set++) {
            if ((best < 0 || Integer.bitCount(set) < Integer.bitCount(best)) && shortest(set) >= 99) {
                best = set;
            }
        }
        return best;
    }

    int loosen() {
        return callInt(() -> Integer.bitCount(loosening()));
    }

    int loosenSet() {
        return callInt(this::loosening);
    }

    private int bestWaiting;
    private List<Integer> bestOrder;

    private void tryOrders(List<Integer> order) {
        if (order.size() == now.matters.size()) {
            int days = 0;
            int waiting = 0;
            for (int m : order) {
                days += now.load(m);
                for (int[] s : now.sitters) {
                    waiting += s[2] == m ? s[3] * days : 0;
                }
            }
            if (bestOrder == null || waiting < bestWaiting) {
                bestWaiting = waiting;
                bestOrder = List.copyOf(order);
            }
            return;
        }
        for (int m = 0; m < now.matters.size(); m++) {
            int next = m;
            if (!order.contains(m) && now.holds.stream().allMatch(h -> h.held != next || order.contains(h.by))) {
                order.add(m);
                tryOrders(order);
                order.remove(order.size() - 1);
            }
        }
    }

    private List<Integer> order() {
        bestOrder = null;
        for (int m = 0; m < now.matters.size(); m++) {
            unless(now.load(m) >= 0, 8);
        }
        tryOrders(new ArrayList<>());
        unless(bestOrder != null, 8);
        return bestOrder;
    }

    int waiting() {
        return callInt(() -> {
            order();
            return bestWaiting;
        });
    }

    int orderAt(int k) {
        return callInt(() -> {
            List<Integer> order = order();
            unless(k >= 0 && k < order.size(), 8);
            return order.get(k);
        });
    }

    private int roundFrom(int mile, List<Integer> left) {
        if (left.isEmpty()) {
            return 0;
        }
        int best = Integer.MAX_VALUE;
        for (int i = 0; i < left.size(); i++) {
            List<Integer> rest = new ArrayList<>(left);
            int to = now.sitters.get(rest.remove(i))[0];
            best = Math.min(best, Math.abs(to - mile) * left.size() + roundFrom(to, rest));
        }
        return best;
    }

    int round(int mile) {
        return callInt(() -> {
            among(mile, 0, 59);
            List<Integer> left = new ArrayList<>();
            for (int s = 0; s < now.sitters.size(); s++) {
                if (now.height(s) != 0) {
                    left.add(s);
                }
            }
            return roundFrom(mile, left);
        });
    }

    private List<int[]> twos(int tray, int n) {
        unless(trays[tray] != null, 3);
        unless(2L * n <= trays[tray].length, 4);
        among(n, 0, 20);
        List<int[]> twos = new ArrayList<>();
        for (int i = 0; i < n; i++) {
            long days = trays[tray][2 * i];
            long height = trays[tray][2 * i + 1];
            unless(days >= 0 && days <= 40 && height >= 0 && height <= 99, 5);
            twos.add(new int[] {(int) days, (int) height});
        }
        return twos;
    }

    private List<Integer> outs(int sitter, int tray, int n) {
        thereIsTray(tray);
        thereIs(sitter, now.sitters);
        List<int[]> twos = twos(tray, n);
        List<Integer> matters = new ArrayList<>();
        for (int m = 0; m < now.matters.size(); m++) {
            int matter = m;
            if (twos.stream().allMatch(t -> now.after(t[0]).heightFor(sitter, matter) == t[1])) {
                matters.add(m);
            }
        }
        return matters;
    }

    int out(int sitter, int tray, int n) {
        return callInt(() -> outs(sitter, tray, n).stream().mapToInt(m -> 1 << m).sum());
    }

    int ask(int sitter, int tray, int n) {
        return callInt(() -> {
            List<Integer> matters = outs(sitter, tray, n);
            unless(matters.size() >= 2, 8);
            Map<Integer, Integer> daysByCrowd = new TreeMap<>();
            for (int days = 0; days <= 40; days++) {
                State then = now.after(days);
                Map<Integer, Integer> crowds = new LinkedHashMap<>();
                matters.forEach(m -> crowds.merge(then.heightFor(sitter, m), 1, Integer::sum));
                daysByCrowd.putIfAbsent(crowds.values().stream().max(Integer::compare).orElse(0), days);
            }
            return daysByCrowd.values().iterator().next();
        });
    }

    private List<int[]> allLaws(int tray, int n) {
        thereIsTray(tray);
        List<int[]> twos = twos(tray, n);
        List<int[]> laws = new ArrayList<>();
        for (int tall = 1; tall < 100; tall++) {
            for (int pace = 0; pace <= 20; pace++) {
                State alone = new State();
                alone.matters.add(new int[] {pace, 0});
                alone.sitters.add(new int[] {0, tall, 0, 1});
                boolean fits = true;
                for (int[] two : twos) {
                    fits = fits && alone.after(two[0]).height(0) == two[1];
                }
                if (fits) {
                    laws.add(new int[] {tall, pace});
                }
            }
        }
        return laws;
    }

    int laws(int tray, int n) {
        return callInt(() -> allLaws(tray, n).size());
    }

    int lawOf(int tray, int n, int what) {
        return callInt(() -> {
            thereIsTray(tray);
            twos(tray, n);
            among(what, 0, 1);
            List<int[]> laws = allLaws(tray, n);
            unless(!laws.isEmpty(), 8);
            return laws.get(0)[what];
        });
    }

    /** OFF in parts of 16 to the power of the days, by going over all days one may get off at. */
    private BigInteger offCost(int height, int days) {
        among(height, 0, 99);
        among(days, 0, 8);
        BigInteger sixteen = BigInteger.valueOf(16);
        BigInteger goesOn = BigInteger.valueOf(16 - now.odds);
        BigInteger best = null;
        for (int last = 0; last <= days; last++) {
            // waits on the first so many days, then gets off
            BigInteger cost = BigInteger.valueOf(height).multiply(goesOn.pow(last)).multiply(sixteen.pow(days - last));
            for (int d = 0; d < last; d++) {
                cost = cost.add(goesOn.pow(d).multiply(sixteen.pow(days - d)));
            }
            best = best == null ? cost : best.min(cost);
        }
        return best;
    }

    boolean off(int height, int days) {
        return callYes(() -> fraction(offCost(height, days), BigInteger.valueOf(16).pow(days)));
    }

    int stay(int height, int days) {
        return callInt(() ->
            offCost(height, days).compareTo(BigInteger.valueOf(height).multiply(BigInteger.valueOf(16).pow(days))) < 0 ? 1 : 0);
    }

    private int play(State s, int first, int second, int turns, int sign) {
        if (turns == 0) {
            return sign * (s.height(second) - s.height(first));
        }
        int best = -play(s, first, second, turns - 1, -sign);
        for (int n = 0; n < s.news.size(); n++) {
            if (s.canBring(n)) {
                State then = s.copy();
                then.bring(n);
                best = Math.max(best, -play(then, first, second, turns - 1, -sign));
            }
        }
        return best;
    }

    int game(int sitter, int other, int turns) {
        return callInt(() -> {
            thereIs(sitter, now.sitters);
            thereIs(other, now.sitters);
            unless(sitter != other, 5);
            among(turns, 0, 4);
            return play(now, sitter, other, turns, 1);
        });
    }

    int moveOf(int sitter, int other, int turns) {
        return callInt(() -> {
            thereIs(sitter, now.sitters);
            thereIs(other, now.sitters);
            unless(sitter != other, 5);
            among(turns, 1, 4);
            int value = play(now, sitter, other, turns, 1);
            for (int n = 0; n < now.news.size(); n++) {
                if (now.canBring(n)) {
                    State then = now.copy();
                    then.bring(n);
                    if (-play(then, sitter, other, turns - 1, -1) == value) {
                        return n;
                    }
                }
            }
            throw new Refused(8);
        });
    }

    boolean lasts(int n) {
        return callYes(() -> {
            among(n, 0, 12);
            fraction(BigInteger.valueOf(16 - now.odds).pow(n), BigInteger.valueOf(16).pow(n));
        });
    }

    boolean share(int s) {
        return callYes(() -> {
            thereIs(s, now.sitters);
            unless(now.heights() > 0, 8);
            fraction(BigInteger.valueOf(now.height(s)), BigInteger.valueOf(now.heights()));
        });
    }

    /** One life by the years: works on a state of its own. */
    private static final class Life {
        State s;
        long seed;
        int steps;
        int[] counts = new int[5];

        Life(State s, int seed) {
            this.s = s;
            this.seed = seed;
            try {
                all(s.years);
            } catch (Stop stop) {
                return;
            }
        }

        int draw(int by) {
            seed = (seed * 2971 + 10973) % 65536;
            return (int) (seed / 8 % by);
        }

        void all(List<Step> list) {
            for (Step step : list) {
                if (steps == 300) {
                    counts[4] = 1;
                    throw new Stop();
                }
                steps++;
                one(step);
            }
        }

        void days(int n) {
            if (s.day + n > 9999) {
                counts[0]++;
                return;
            }
            s = s.after(n);
            counts[1] += n;
        }

        void crisis(int m, int much) {
            int[] of = s.matters.get(m);
            if (of[1] == 0) {
                counts[0]++;
                return;
            }
            of[1] = Math.max(0, of[1] - much);
            counts[3]++;
        }

        void one(Step step) {
            switch (step.verb) {
                case "day" -> days(step.number);
                case "bring" -> {
                    if (s.canBring(step.number)) {
                        s.bring(step.number);
                        counts[2]++;
                    } else {
                        counts[0]++;
                    }
                }
                case "crisis" -> crisis(step.who, step.number);
                case "turn" -> {
                    int[] sitter = s.sitters.get(step.who);
                    if (sitter[2] == step.number) {
                        counts[0]++;
                    }
                    sitter[2] = step.number;
                }
                case "any" -> any();
                case "when" -> {
                    if (isSo(step)) {
                        all(step.inside);
                    }
                }
                case "loop" -> {
                    for (int i = 0; i < step.number; i++) {
                        all(step.inside);
                    }
                }
                default -> throw new Stop();
            }
        }

        void any() {
            if (s.matters.isEmpty()) {
                counts[0]++;
                return;
            }
            int m = draw(s.matters.size());
            int d = draw(16);
            if (d >= s.odds) {
                days(1);
            } else {
                crisis(m, draw(50) + 1);
            }
        }

        boolean isSo(Step step) {
            if (step.test.equals("settled")) {
                return s.settled(step.who);
            }
            int height = s.height(step.who);
            if (step.test.equals("down")) {
                return height == 0;
            }
            return switch (step.sign) {
                case "<" -> height < step.number;
                case ">" -> height > step.number;
                default -> height == step.number;
            };
        }
    }

    int live(int seed) {
        return callInt(() -> {
            among(seed, 0, 9999);
            unless(now.years != null, 8);
            Life life = new Life(now.copy(), seed);
            now = life.s;
            lived = life.counts;
            return life.steps;
        });
    }

    int lived(int what) {
        return callInt(() -> {
            among(what, 0, 4);
            unless(lived != null, 8);
            return lived[what];
        });
    }

    boolean mean(int seed, int many) {
        return callYes(() -> {
            among(seed, 0, 9999);
            among(many, 1, 20);
            among(seed + many - 1, 0, 9999);
            unless(now.years != null, 8);
            int sum = 0;
            for (int i = 0; i < many; i++) {
                sum += new Life(now.copy(), seed + i).s.heights();
            }
            fraction(BigInteger.valueOf(sum), BigInteger.valueOf(many));
        });
    }

    int mark() {
        return callInt(() -> {
            unless(marks.size() < 3, 7);
            marks.add(now.copy());
            return marks.size();
        });
    }

    int back() {
        return callInt(() -> {
            unless(!marks.isEmpty(), 8);
            now = marks.remove(marks.size() - 1);
            return marks.size();
        });
    }
}
