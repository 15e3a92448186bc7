import java.util.ArrayList;
import java.util.HashMap;
import java.util.HashSet;
import java.util.List;
import java.util.Map;
import java.util.NoSuchElementException;
import java.util.Set;
import java.util.TreeMap;

/**
 * Long runs of calls, the same ones each time, on Pebblecourt and on a court written as plainly as the
 * document's words, without its tables and masks; every answer and every exception must be the same.
 * An argument tells another number of runs, a second one the first run's number.
 */
public final class PebblecourtAgainstPlain {
    // Nothing is promised of an object behind its 512th call, and the last turn may still make some fifty.
    private static final int MOST_CALLS = 455;
    private static int wrong = 0;
    private static long seed;

    public static void main(String[] args) {
        int runs = args.length > 0 ? Integer.parseInt(args[0]) : 800;
        int first = args.length > 1 ? Integer.parseInt(args[1]) : 0;
        for (int run = first; run < first + runs && wrong < 20; run++) {
            oneRun(run);
        }
        if (wrong > 0) {
            System.exit(1);
        }
        System.out.println("PebblecourtAgainstPlain: all answers are the same");
    }

    private static int any(int bound) {
        seed = seed * 6364136223846793005L + 1442695040888963407L;
        return (int) ((seed >>> 33) % bound);
    }

    private static boolean oneIn(int bound) {
        return any(bound) == 0;
    }

    // ---- runs

    private static String log(List<String> calls) {
        StringBuilder text = new StringBuilder();
        for (String call : calls) {
            text.append("  ").append(call).append('\n');
        }
        return text.toString();
    }

    private interface Call {
        Object run();
    }

    private static Object outcome(Call call) {
        try {
            return call.run();
        } catch (RuntimeException e) {
            return "throws " + e.getClass().getName();
        }
    }

    private static void compare(int run, List<String> calls, String call, Call ours, Call plain) {
        Object due = outcome(plain);
        Object got = outcome(ours);
        calls.add(call + " -> " + due);
        if (!got.equals(due)) {
            wrong++;
            System.out.println("run " + run + ", call " + calls.size() + ": " + call + " answered " + got + ", due is " + due);
            if (wrong == 1) {
                System.out.println(log(calls));
            }
        }
    }

    private static int most;
    private static Pebblecourt p;
    private static Plain q;

    private static void oneRun(int run) {
        seed = run * 7919L + 12345L;
        any(5);
        any(5);
        p = new Pebblecourt();
        q = new Plain();
        most = run % 4 == 0 ? 6 : run % 4 == 1 ? 4 : 3;
        List<String> calls = new ArrayList<>();
        calls.add("new");
        int theme = run % 5;
        if (theme == 1 && oneIn(2)) {
            int which = 2 * any(LONG_TOLD.length / 2);
            boolean isChanged = oneIn(2);
            buildWhole(run, calls, nearly(LONG_TOLD[which], isChanged));
            buildWhole(run, calls, nearly(LONG_TOLD[which + 1], false));
            compare(run, calls, "position(0,1)", () -> p.position(0, 1), () -> q.position(0, 1));
            askTelling(run, calls, 3);
            compare(run, calls, "position(1,0)", () -> p.position(1, 0), () -> q.position(1, 0));
            askTelling(run, calls, 3);
        }
        for (int i = q.worlds.size(); i < 4 && theme > 0; i++) {
            buildWhole(run, calls, oneIn(2) && i > 0 ? likeOneOf() : someShape(1 + any(most)));
        }
        for (int i = 0; i < 8 && theme == 3; i++) {
            tell(run, calls);
        }
        for (int i = 0; calls.size() < MOST_CALLS && i < 400 && wrong < 20; i++) {
            if (theme > 0 ? oneIn(12) : i < 40 ? oneIn(2) : oneIn(5)) {
                build(run, calls);
            } else if (theme == 3 || theme == 0 ? oneIn(6) : oneIn(80)) {
                tell(run, calls);
            } else if (theme == 1) {
                askGame(run, calls, someWorld(), someWorld());
            } else {
                ask(run, calls, theme == 2 ? "4458999".charAt(any(7)) - '0'
                        : theme == 3 ? "0066688:".charAt(any(8)) - '0' : theme == 4 ? 11 : any(13));
            }
        }
    }

    // Some of these have telling formulas of some 600 signs against one another, shorter ones and longer ones.
    private static final String[] LONG_TOLD = {"5:01,12,23,34,40", "6:01,12,23,34,45,50",
        "5:04,F13,14,F14,F23,24,F24,30,31,F31,34,F34,F41,F42,F43", "6:04,12,23,31,34,45,50",
        "5:04,F13,14,F14,23,F23,F24,30,31,F31,32,F34,41,F41,42,F42,43,F43", "6:04,12,23,31,45,50",
        "5:02,23,F23,24,30,32,34", "6:04,12,23,31,45,50",
        "6:F04,05,13,F15,F23,24,31,F32,F40,42,50,F51",
        "6:03,F04,F05,F13,15,F15,F21,24,F25,F30,31,F32,34,F34,35,F35,F40,F41,F43,F50,F51,F53,54"};

    private static PlainWorld nearly(String told, boolean isChanged) {
        PlainWorld w = new PlainWorld(told.charAt(0) - '0');
        for (String part : told.substring(2).split(",")) {
            int at = part.length() - 2;
            (at == 0 ? w.e : w.f)[part.charAt(at) - '0'][part.charAt(at + 1) - '0'] = true;
        }
        if (isChanged) {
            w.e[any(w.n)][any(w.n)] ^= true;
        }
        return w;
    }

    // Shapes in which little is told apart at once: rings, paths, all or nothing, the same both ways.
    private static PlainWorld someShape(int size) {
        PlainWorld w = new PlainWorld(size);
        int kind = any(7);
        int dense = 1 + any(4);
        for (int a = 0; a < size; a++) {
            for (int b = 0; b < size; b++) {
                boolean isRing = (a + 1) % size == b;
                w.e[a][b] = kind == 0 ? isRing : kind == 1 ? a + 1 == b : kind == 2 ? a != b : kind == 3 ? a / 3 == b / 3 && a / 3 * 3 + (a % 3 + 1) % 3 == b
                        : kind == 4 ? a != b && oneIn(dense) : kind == 5 ? (b < a ? w.e[b][a] : b > a && oneIn(dense)) : oneIn(dense);
                w.f[a][b] = oneIn(30);
            }
            w.p[a] = oneIn(6);
            w.q[a] = oneIn(12);
        }
        if (oneIn(3)) {
            for (int a = 0; a < size; a++) {
                for (int b = 0; b < size; b++) {
                    w.e[a][b] |= w.e[b][a];
                }
            }
        }
        return w;
    }

    private static PlainWorld likeOneOf() {
        PlainWorld from = q.worlds.get(any(q.worlds.size()));
        List<Integer> places = new ArrayList<>();
        for (int a = 0; a < from.n; a++) {
            places.add(any(a + 1), a);
        }
        PlainWorld w = new PlainWorld(from.n);
        for (int a = 0; a < w.n; a++) {
            for (int b = 0; b < w.n; b++) {
                w.e[a][b] = from.e[places.get(a)][places.get(b)];
                w.f[a][b] = from.f[places.get(a)][places.get(b)];
            }
            w.p[a] = from.p[places.get(a)];
            w.q[a] = from.q[places.get(a)];
        }
        if (oneIn(2)) {
            int a = any(w.n);
            int b = any(w.n);
            w.e[a][b] = !w.e[a][b];
        }
        return w;
    }

    private static void buildWhole(int run, List<String> calls, PlainWorld shape) {
        compare(run, calls, "world(" + shape.n + ")", () -> p.world(shape.n), () -> q.world(shape.n));
        int w = q.worlds.size() - 1;
        for (int i = 0; i < shape.n; i++) {
            int a = i;
            for (int j = 0; j < shape.n; j++) {
                int b = j;
                if (shape.e[a][b]) {
                    compare(run, calls, "stepped(" + w + "," + a + "," + b + ")", () -> p.stepped(w, a, b), () -> q.toggled(w, a, b, true));
                }
                if (shape.f[a][b]) {
                    compare(run, calls, "threaded(" + w + "," + a + "," + b + ")", () -> p.threaded(w, a, b), () -> q.toggled(w, a, b, false));
                }
            }
            if (shape.p[a]) {
                compare(run, calls, "marked(" + w + "," + a + ",P)", () -> p.marked(w, a, 'P'), () -> q.marked(w, a, 'P'));
            }
            if (shape.q[a]) {
                compare(run, calls, "marked(" + w + "," + a + ",Q)", () -> p.marked(w, a, 'Q'), () -> q.marked(w, a, 'Q'));
            }
        }
    }

    private static int someWorld() {
        return oneIn(40) ? any(16) - 2 : q.worlds.isEmpty() ? 0 : any(q.worlds.size());
    }

    private static int someFormula() {
        return oneIn(40) ? any(24) - 2 : q.formulas.isEmpty() ? 0 : any(q.formulas.size());
    }

    private static int someThing(int world) {
        int size = world >= 0 && world < q.worlds.size() ? q.worlds.get(world).n : 3;
        return oneIn(40) ? any(9) - 1 : any(size);
    }

    private static void build(int run, List<String> calls) {
        int w = someWorld();
        int v = someWorld();
        switch (any(12)) {
            case 0: case 1: {
                int size = oneIn(20) ? any(9) - 1 : 1 + any(most);
                compare(run, calls, "world(" + size + ")", () -> p.world(size), () -> q.world(size));
                int made = q.worlds.size() - 1;
                int flips = any(size < 1 ? 1 : size * 3);
                for (int i = 0; i < flips && !oneIn(20); i++) {
                    int a = someThing(made);
                    int b = someThing(made);
                    compare(run, calls, "stepped(" + made + "," + a + "," + b + ")", () -> p.stepped(made, a, b), () -> q.toggled(made, a, b, true));
                }
                break;
            }
            case 2: case 3: case 4: {
                int a = someThing(w);
                int b = someThing(w);
                compare(run, calls, "stepped(" + w + "," + a + "," + b + ")", () -> p.stepped(w, a, b), () -> q.toggled(w, a, b, true));
                break;
            }
            case 5: {
                int a = someThing(w);
                int b = someThing(w);
                compare(run, calls, "threaded(" + w + "," + a + "," + b + ")", () -> p.threaded(w, a, b), () -> q.toggled(w, a, b, false));
                break;
            }
            case 6: {
                int a = someThing(w);
                char mark = oneIn(15) ? 'E' : oneIn(2) ? 'P' : 'Q';
                compare(run, calls, "marked(" + w + "," + a + "," + mark + ")", () -> p.marked(w, a, mark), () -> q.marked(w, a, mark));
                break;
            }
            case 7: {
                boolean product = oneIn(2);
                compare(run, calls, "join(" + w + "," + v + "," + product + ")", () -> p.join(w, v, product), () -> q.join(w, v, product));
                break;
            }
            case 8:
                compare(run, calls, "turned(" + w + ")", () -> p.turned(w), () -> q.turned(w));
                break;
            case 9: {
                int set = oneIn(20) ? any(70) - 3 : 1 + any(w >= 0 && w < q.worlds.size() ? (1 << q.worlds.get(w).n) - 1 : 7);
                compare(run, calls, "part(" + w + "," + set + ")", () -> p.part(w, set), () -> q.part(w, set));
                break;
            }
            case 10: {
                int f = someFormula();
                compare(run, calls, "made(" + w + "," + f + ")", () -> p.made(w, f), () -> q.made(w, f));
                break;
            }
            default: {
                char what = "EFPQEFPQX".charAt(any(9));
                compare(run, calls, "size(" + w + ")", () -> p.size(w), () -> q.size(w));
                compare(run, calls, "many(" + w + "," + what + ")", () -> p.many(w, what), () -> q.many(w, what));
                compare(run, calls, "worlds()", () -> p.worlds(), () -> q.worlds.size());
                compare(run, calls, "meanSize()", () -> p.meanSize(), () -> q.meanSize());
                break;
            }
        }
    }

    private static char someName(int names) {
        int which = 0;
        do {
            which = any(6);
        } while ((names >> which & 1) == 0);
        return "xyzuvw".charAt(which);
    }

    private static String someText(int depth, int free, int allowed, int room) {
        int kind = any(10);
        if (depth <= 0 || room < 8 || kind < 2) {
            if (free == 0) {
                char name = someName(allowed);
                return "#@12"  .charAt(any(4)) + "" + name + someText(0, 1 << "xyzuvw".indexOf(name), allowed, 3);
            }
            char sign = "EEEEF=<<PQXXX".charAt(any(13));
            String text = "" + sign + someName(free);
            return "PQX".indexOf(sign) >= 0 ? text : text + someName(free);
        }
        if (kind < 4) {
            return "!" + someText(depth - 1, free, allowed, room - 1);
        }
        if (kind < 7) {
            return (oneIn(2) ? "&" : "|") + someText(depth - 1, free, allowed, room / 2) + someText(depth - 1, free, allowed, room / 2);
        }
        char name = someName(allowed);
        String sign = "" + "##@@#@##@@123456".charAt(any(16));
        return sign + name + someText(depth - 1, free | 1 << "xyzuvw".indexOf(name), allowed, room - 2);
    }

    private static void typeAll(int run, List<String> calls, String text) {
        for (int i = 0; i < text.length(); i++) {
            char sign = text.charAt(i);
            compare(run, calls, "type(" + sign + ")", () -> p.type(sign), () -> q.type(sign));
        }
    }

    private static void tell(int run, List<String> calls) {
        int kind = any(10);
        if (kind == 0) {
            StringBuilder text = new StringBuilder();
            int length = any(12);
            for (int i = 0; i < length; i++) {
                text.append("EF=<PQX!&|#@123456xyzuvwxyzxyzxyz A0".charAt(any(36)));
            }
            typeAll(run, calls, text.toString());
        } else {
            int allowed = oneIn(4) ? 63 : oneIn(2) ? 3 : 7;
            int free = oneIn(2) ? 0 : oneIn(2) ? 1 << any(2) : oneIn(2) ? 3 : allowed;
            String text = someText(1 + any(5), free & allowed, allowed, 38);
            if (oneIn(15)) {
                text = text.substring(0, text.length() - 1);
            }
            if (oneIn(25)) {
                text = text + someName(7);
            }
            typeAll(run, calls, text);
        }
        compare(run, calls, "fault()", () -> p.fault(), () -> q.fault());
        compare(run, calls, "formula()", () -> p.formula(), () -> q.formula());
        if (oneIn(3) || q.buffer.length() > 20) {
            compare(run, calls, "erase()", () -> p.erase(), () -> q.erase());
        }
        int f = someFormula();
        compare(run, calls, "free(" + f + ")", () -> p.free(f), () -> q.free(f));
        compare(run, calls, "rank(" + f + ")", () -> p.rank(f), () -> q.rank(f));
        compare(run, calls, "width(" + f + ")", () -> p.width(f), () -> q.width(f));
    }

    private static void ask(int run, List<String> calls, int kind) {
        int w = someWorld();
        int v = someWorld();
        int f = someFormula();
        int a = someThing(w);
        int b = someThing(v);
        boolean yes = oneIn(2);
        switch (kind) {
            case 0: {
                int name = oneIn(20) ? any(9) - 1 : any(6);
                int thing = oneIn(20) ? any(9) - 1 : any(3);
                compare(run, calls, "let(" + name + "," + thing + ")", () -> p.let(name, thing), () -> q.let(name, thing));
                compare(run, calls, "holds(" + w + "," + f + ")", () -> p.holds(w, f), () -> q.holds(w, f));
                compare(run, calls, "ways(" + w + "," + f + ")", () -> p.ways(w, f), () -> q.ways(w, f));
                break;
            }
            case 1: case 2: case 3:
                askGame(run, calls, w, v);
                break;
            case 4: {
                int rank = oneIn(20) ? any(6) - 1 : any(3);
                int pebbles = oneIn(20) ? any(5) - 1 : 1 + any(2);
                compare(run, calls, "pebbles(" + w + "," + v + "," + pebbles + "," + yes + ")", () -> p.pebbles(w, v, pebbles, yes), () -> q.pebbles(w, v, pebbles, yes));
                compare(run, calls, "types(" + w + "," + rank + ")", () -> p.types(w, rank), () -> q.types(w, rank));
                compare(run, calls, "apart(" + w + "," + v + ")", () -> p.apart(w, v), () -> q.apart(w, v));
                break;
            }
            case 5:
                compare(run, calls, "colours(" + w + "," + yes + ")", () -> p.colours(w, yes), () -> q.colours(w, yes));
                compare(run, calls, "areAlike(" + w + "," + v + "," + yes + ")", () -> p.areAlike(w, v, yes), () -> q.areAlike(w, v, yes));
                break;
            case 6: case 7: {
                int name = oneIn(20) ? any(9) - 1 : any(3);
                char growth = oneIn(20) ? 'x' : "lgw".charAt(any(3));
                compare(run, calls, "fixed(" + w + "," + f + "," + name + "," + growth + ")", () -> p.fixed(w, f, name, growth), () -> q.fixed(w, f, name, growth));
                compare(run, calls, "stages(" + w + "," + f + "," + name + "," + growth + ")", () -> p.stages(w, f, name, growth), () -> q.stages(w, f, name, growth));
                compare(run, calls, "reaches(" + w + "," + a + ")", () -> p.reaches(w, a), () -> q.reaches(w, a));
                break;
            }
            case 8:
                compare(run, calls, "orders(" + w + "," + f + ")", () -> p.orders(w, f), () -> q.orders(w, f));
                compare(run, calls, "someSet(" + w + "," + f + ")", () -> p.someSet(w, f), () -> q.someSet(w, f));
                break;
            case 9: {
                int radius = oneIn(20) ? any(10) - 1 : any(3);
                compare(run, calls, "ball(" + w + "," + a + "," + radius + ")", () -> p.ball(w, a, radius), () -> q.ball(w, a, radius));
                compare(run, calls, "areKind(" + w + "," + a + "," + v + "," + b + "," + radius + ")", () -> p.areKind(w, a, v, b, radius), () -> q.areKind(w, a, v, b, radius));
                compare(run, calls, "kinds(" + w + "," + radius + ")", () -> p.kinds(w, radius), () -> q.kinds(w, radius));
                break;
            }
            case 10: {
                int size = oneIn(20) ? any(6) - 1 : 1 + any(oneIn(8) ? 3 : 2);
                compare(run, calls, "chance(" + f + "," + size + ")", () -> p.chance(f, size), () -> q.chance(f, size));
                compare(run, calls, "truth(" + f + ")", () -> p.truth(f), () -> q.truth(f));
                break;
            }
            case 11:
                compare(run, calls, "maps(" + w + "," + v + ")", () -> p.maps(w, v), () -> q.maps(w, v));
                compare(run, calls, "core(" + w + ")", () -> p.core(w), () -> q.core(w));
                compare(run, calls, "areStepwise(" + w + "," + a + "," + v + "," + b + ")", () -> p.areStepwise(w, a, v, b), () -> q.areStepwise(w, a, v, b));
                if (oneIn(4)) {
                    compare(run, calls, "operations(" + w + ")", () -> p.operations(w), () -> q.operations(w));
                }
                break;
            default:
                compare(run, calls, "isSound()", () -> p.isSound(), () -> true);
                break;
        }
    }

    private static void askGame(int run, List<String> calls, int w, int v) {
        int kind = any(6);
        if (kind < 2 || q.left == null) {
            compare(run, calls, "position(" + w + "," + v + ")", () -> p.position(w, v), () -> q.position(w, v));
        }
        if (q.left != null && oneIn(2)) {
            int a = oneIn(20) ? any(9) - 1 : any(q.left.n);
            int b = oneIn(20) ? any(9) - 1 : oneIn(3) || a < 0 || a >= q.left.n ? any(q.right.n)
                    : Math.max(0, Plain.reply(q.left, q.right, q.pairs, true, a, 0));
            compare(run, calls, "pair(" + a + "," + b + ")", () -> p.pair(a, b), () -> q.pair(a, b));
        }
        int rounds = oneIn(20) ? any(7) - 1 : any(oneIn(2) ? 4 : 3);
        boolean inFirst = oneIn(2);
        int thing = oneIn(20) ? any(9) - 1 : any(3);
        compare(run, calls, "isAlike()", () -> p.isAlike(), () -> q.isAlike());
        compare(run, calls, "answers(" + rounds + ")", () -> p.answers(rounds), () -> q.answers(rounds));
        compare(run, calls, "answer(" + inFirst + "," + thing + "," + rounds + ")", () -> p.answer(inFirst, thing, rounds), () -> q.answer(inFirst, thing, rounds));
        askTelling(run, calls, rounds);
    }

    private static void askTelling(int run, List<String> calls, int rounds) {
        compare(run, calls, "telling(" + rounds + ")", () -> p.telling(rounds), () -> q.telling(rounds));
        int length = q.left == null || rounds < 0 || rounds > 3 ? 0 : q.told(rounds) == null ? 0 : q.told(rounds).length();
        for (int i = 0; i < 3; i++) {
            int index = oneIn(8) ? any(700) - 5 : i == 0 ? length : any(length + 1);
            compare(run, calls, "tellingAt(" + rounds + "," + index + ")", () -> p.tellingAt(rounds, index), () -> q.tellingAt(rounds, index));
        }
        int step = 1 + length / 50;
        for (int i = any(step); i < length && calls.size() < MOST_CALLS; i += step) {
            int index = i;
            compare(run, calls, "tellingAt(" + rounds + "," + index + ")", () -> p.tellingAt(rounds, index), () -> q.tellingAt(rounds, index));
        }
    }

    // ---- the plain court

    private static final class PlainWorld {
        final int n;
        final boolean[][] e;
        final boolean[][] f;
        final boolean[] p;
        final boolean[] q;

        PlainWorld(int n) {
            this.n = n;
            e = new boolean[n][n];
            f = new boolean[n][n];
            p = new boolean[n];
            q = new boolean[n];
        }
    }

    private static final class Node {
        char sign;
        int one;
        int two;
        Node left;
        Node right;
    }

    private static final class Plain {
        final List<PlainWorld> worlds = new ArrayList<>();
        final List<Node> formulas = new ArrayList<>();
        StringBuilder buffer = new StringBuilder();
        final int[] lets = new int[6];
        PlainWorld left;
        PlainWorld right;
        List<int[]> pairs = new ArrayList<>();

        PlainWorld at(int w) {
            if (w < 0 || w >= worlds.size()) {
                throw new IndexOutOfBoundsException();
            }
            return worlds.get(w);
        }

        Node formulaAt(int f) {
            if (f < 0 || f >= formulas.size()) {
                throw new IndexOutOfBoundsException();
            }
            return formulas.get(f);
        }

        void thing(PlainWorld w, int a) {
            if (a < 0 || a >= w.n) {
                throw new IndexOutOfBoundsException();
            }
        }

        void range(int number, int least, int most) {
            if (number < least || number > most) {
                throw new IllegalArgumentException();
            }
        }

        int add(PlainWorld w) {
            worlds.add(w);
            return worlds.size() - 1;
        }

        void room() {
            if (worlds.size() == 12) {
                throw new IllegalStateException();
            }
        }

        int world(int size) {
            range(size, 1, 6);
            room();
            return add(new PlainWorld(size));
        }

        boolean toggled(int w, int a, int b, boolean isStep) {
            PlainWorld world = at(w);
            thing(world, a);
            thing(world, b);
            boolean[][] rows = isStep ? world.e : world.f;
            rows[a][b] = !rows[a][b];
            return rows[a][b];
        }

        boolean marked(int w, int a, char mark) {
            PlainWorld world = at(w);
            thing(world, a);
            if (mark != 'P' && mark != 'Q') {
                throw new IllegalArgumentException();
            }
            boolean[] row = mark == 'P' ? world.p : world.q;
            row[a] = !row[a];
            return row[a];
        }

        PlainWorld product(PlainWorld one, PlainWorld two) {
            PlainWorld w = new PlainWorld(one.n * two.n);
            for (int a = 0; a < one.n; a++) {
                for (int b = 0; b < two.n; b++) {
                    for (int c = 0; c < one.n; c++) {
                        for (int d = 0; d < two.n; d++) {
                            w.e[a * two.n + b][c * two.n + d] = one.e[a][c] && two.e[b][d];
                            w.f[a * two.n + b][c * two.n + d] = one.f[a][c] && two.f[b][d];
                        }
                    }
                    w.p[a * two.n + b] = one.p[a] && two.p[b];
                    w.q[a * two.n + b] = one.q[a] && two.q[b];
                }
            }
            return w;
        }

        int join(int first, int second, boolean isProduct) {
            PlainWorld one = at(first);
            PlainWorld two = at(second);
            int n = isProduct ? one.n * two.n : one.n + two.n;
            if (n > 6) {
                throw new UnsupportedOperationException();
            }
            room();
            if (isProduct) {
                return add(product(one, two));
            }
            PlainWorld w = new PlainWorld(n);
            for (int a = 0; a < n; a++) {
                boolean isOne = a < one.n;
                PlainWorld from = isOne ? one : two;
                int shift = isOne ? 0 : one.n;
                for (int b = shift; b < shift + from.n; b++) {
                    w.e[a][b] = from.e[a - shift][b - shift];
                    w.f[a][b] = from.f[a - shift][b - shift];
                }
                w.p[a] = from.p[a - shift];
                w.q[a] = from.q[a - shift];
            }
            return add(w);
        }

        int turned(int world) {
            PlainWorld from = at(world);
            room();
            PlainWorld w = part(from, (1 << from.n) - 1);
            for (int a = 0; a < w.n; a++) {
                for (int b = 0; b < w.n; b++) {
                    w.e[a][b] = !w.e[a][b];
                }
            }
            return add(w);
        }

        PlainWorld part(PlainWorld from, int set) {
            List<Integer> things = new ArrayList<>();
            for (int a = 0; a < from.n; a++) {
                if ((set >> a & 1) == 1) {
                    things.add(a);
                }
            }
            PlainWorld w = new PlainWorld(things.size());
            for (int a = 0; a < w.n; a++) {
                for (int b = 0; b < w.n; b++) {
                    w.e[a][b] = from.e[things.get(a)][things.get(b)];
                    w.f[a][b] = from.f[things.get(a)][things.get(b)];
                }
                w.p[a] = from.p[things.get(a)];
                w.q[a] = from.q[things.get(a)];
            }
            return w;
        }

        int part(int world, int set) {
            PlainWorld from = at(world);
            if (set <= 0 || set >= 1 << from.n) {
                throw new IllegalArgumentException();
            }
            room();
            return add(part(from, set));
        }

        int made(int world, int formula) {
            PlainWorld from = at(world);
            Node node = formulaAt(formula);
            if ((freeOf(node) & ~3) != 0) {
                throw new UnsupportedOperationException();
            }
            room();
            PlainWorld w = part(from, (1 << from.n) - 1);
            for (int a = 0; a < w.n; a++) {
                for (int b = 0; b < w.n; b++) {
                    w.e[a][b] = says(from, node, new int[] {a, b, 0, 0, 0, 0}, null, 0);
                    w.f[a][b] = false;
                }
            }
            return add(w);
        }

        int size(int w) {
            return at(w).n;
        }

        int many(int w, char what) {
            PlainWorld world = at(w);
            if ("EFPQ".indexOf(what) < 0) {
                throw new IllegalArgumentException();
            }
            int count = 0;
            for (int a = 0; a < world.n; a++) {
                count += what == 'P' && world.p[a] || what == 'Q' && world.q[a] ? 1 : 0;
                for (int b = 0; b < world.n; b++) {
                    count += what == 'E' && world.e[a][b] || what == 'F' && world.f[a][b] ? 1 : 0;
                }
            }
            return count;
        }

        double meanSize() {
            if (worlds.isEmpty()) {
                throw new ArithmeticException();
            }
            double sum = 0;
            for (PlainWorld w : worlds) {
                sum += w.n;
            }
            return sum / worlds.size();
        }

        // ---- formulas

        int type(char sign) {
            if ("EF=<PQX!&|#@123456xyzuvw".indexOf(sign) < 0) {
                throw new IllegalArgumentException();
            }
            if (buffer.length() == 40) {
                throw new IllegalStateException();
            }
            buffer.append(sign);
            return buffer.length();
        }

        int erase() {
            int n = buffer.length();
            buffer.setLength(0);
            return n;
        }

        private String text;
        private int next;

        // The place of the fault is where the reader by parts first meets a sign that it cannot take.
        private static final class Fault extends RuntimeException {
            private static final long serialVersionUID = 1L;
        }

        private int parseName() {
            if (next >= text.length() || "xyzuvw".indexOf(text.charAt(next)) < 0) {
                throw new Fault();
            }
            next++;
            return "xyzuvw".indexOf(text.charAt(next - 1));
        }

        private Node parseOne() {
            if (next >= text.length() || "xyzuvw".indexOf(text.charAt(next)) >= 0) {
                throw new Fault();
            }
            Node node = new Node();
            node.sign = text.charAt(next);
            next++;
            switch (node.sign) {
                case 'E': case 'F': case '=': case '<':
                    node.one = parseName();
                    node.two = parseName();
                    break;
                case 'P': case 'Q': case 'X':
                    node.one = parseName();
                    break;
                case '!':
                    node.left = parseOne();
                    break;
                case '&': case '|':
                    node.left = parseOne();
                    node.right = parseOne();
                    break;
                default:
                    node.one = parseName();
                    node.left = parseOne();
                    break;
            }
            return node;
        }

        private Node parsed;

        int fault() {
            text = buffer.toString();
            next = 0;
            try {
                parsed = parseOne();
            } catch (Fault e) {
                return next;
            }
            return next == text.length() ? -1 : next;
        }

        int formula() {
            if (fault() >= 0) {
                throw new UnsupportedOperationException();
            }
            if (formulas.size() == 20) {
                throw new IllegalStateException();
            }
            buffer.setLength(0);
            formulas.add(parsed);
            return formulas.size() - 1;
        }

        static boolean binds(Node node) {
            return "#@123456".indexOf(node.sign) >= 0;
        }

        int freeOf(Node node) {
            if (node.left == null) {
                return 1 << node.one | ("EF=<".indexOf(node.sign) >= 0 ? 1 << node.two : 0);
            }
            int free = freeOf(node.left) | (node.right == null ? 0 : freeOf(node.right));
            return binds(node) ? free & ~(1 << node.one) : free;
        }

        int namesOf(Node node) {
            if (node.left == null) {
                return freeOf(node);
            }
            return namesOf(node.left) | (node.right == null ? 0 : namesOf(node.right)) | (binds(node) ? 1 << node.one : 0);
        }

        int rankOf(Node node) {
            if (node.left == null) {
                return 0;
            }
            int rank = Math.max(rankOf(node.left), node.right == null ? 0 : rankOf(node.right));
            return rank + (binds(node) ? 1 : 0);
        }

        int free(int f) {
            return freeOf(formulaAt(f));
        }

        int rank(int f) {
            return rankOf(formulaAt(f));
        }

        int width(int f) {
            return Integer.bitCount(namesOf(formulaAt(f)));
        }

        // order: the places of the things, or null for their numbers.
        boolean says(PlainWorld w, Node node, int[] values, int[] order, int set) {
            int a = values[node.one];
            int b = values[node.two];
            switch (node.sign) {
                case 'E':
                    return w.e[a][b];
                case 'F':
                    return w.f[a][b];
                case '=':
                    return a == b;
                case '<':
                    return order == null ? a < b : order[a] < order[b];
                case 'P':
                    return w.p[a];
                case 'Q':
                    return w.q[a];
                case 'X':
                    return (set >> a & 1) == 1;
                case '!':
                    return !says(w, node.left, values, order, set);
                case '&':
                    return says(w, node.left, values, order, set) && says(w, node.right, values, order, set);
                case '|':
                    return says(w, node.left, values, order, set) || says(w, node.right, values, order, set);
                default:
                    int count = 0;
                    int before = values[node.one];
                    for (int c = 0; c < w.n; c++) {
                        values[node.one] = c;
                        count += says(w, node.left, values, order, set) ? 1 : 0;
                    }
                    values[node.one] = before;
                    return node.sign == '@' ? count == w.n : count >= (node.sign == '#' ? 1 : node.sign - '0');
            }
        }

        int let(int name, int thing) {
            range(name, 0, 5);
            range(thing, 0, 5);
            int before = lets[name];
            lets[name] = thing;
            return before;
        }

        boolean holds(int world, int formula) {
            PlainWorld w = at(world);
            Node node = formulaAt(formula);
            for (int i = 0; i < 6; i++) {
                if ((freeOf(node) >> i & 1) == 1 && lets[i] >= w.n) {
                    throw new UnsupportedOperationException();
                }
            }
            return says(w, node, lets.clone(), null, 0);
        }

        int ways(int world, int formula) {
            PlainWorld w = at(world);
            Node node = formulaAt(formula);
            return ways(w, node, freeOf(node), 0, new int[6]);
        }

        int ways(PlainWorld w, Node node, int free, int name, int[] values) {
            if (name == 6) {
                return says(w, node, values, null, 0) ? 1 : 0;
            }
            if ((free >> name & 1) == 0) {
                return ways(w, node, free, name + 1, values);
            }
            int count = 0;
            for (int a = 0; a < w.n; a++) {
                values[name] = a;
                count += ways(w, node, free, name + 1, values);
            }
            return count;
        }

        void needClosed(Node node) {
            if (freeOf(node) != 0) {
                throw new UnsupportedOperationException();
            }
        }

        // ---- games

        int position(int first, int second) {
            PlainWorld one = at(first);
            PlainWorld two = at(second);
            left = one;
            right = two;
            int before = pairs.size();
            pairs = new ArrayList<>();
            return before;
        }

        void needPosition() {
            if (left == null) {
                throw new NoSuchElementException();
            }
        }

        int pair(int a, int b) {
            needPosition();
            thing(left, a);
            thing(right, b);
            if (pairs.size() == 6) {
                throw new IllegalStateException();
            }
            pairs.add(new int[] {a, b});
            return pairs.size();
        }

        static boolean alike(PlainWorld one, PlainWorld two, List<int[]> pairs) {
            for (int[] x : pairs) {
                if (one.p[x[0]] != two.p[x[1]] || one.q[x[0]] != two.q[x[1]]) {
                    return false;
                }
                for (int[] y : pairs) {
                    if (one.e[x[0]][y[0]] != two.e[x[1]][y[1]] || one.f[x[0]][y[0]] != two.f[x[1]][y[1]]
                            || (x[0] == y[0]) != (x[1] == y[1])) {
                        return false;
                    }
                }
            }
            return true;
        }

        static List<int[]> with(List<int[]> pairs, int a, int b) {
            List<int[]> more = new ArrayList<>(pairs);
            more.add(new int[] {a, b});
            return more;
        }

        static boolean wins(PlainWorld one, PlainWorld two, List<int[]> pairs, int rounds) {
            if (!alike(one, two, pairs)) {
                return false;
            }
            if (rounds == 0) {
                return true;
            }
            for (int side = 0; side < 2; side++) {
                for (int a = 0; a < (side == 0 ? one.n : two.n); a++) {
                    if (reply(one, two, pairs, side == 0, a, rounds - 1) < 0) {
                        return false;
                    }
                }
            }
            return true;
        }

        static int reply(PlainWorld one, PlainWorld two, List<int[]> pairs, boolean inFirst, int a, int rounds) {
            for (int b = 0; b < (inFirst ? two.n : one.n); b++) {
                if (wins(one, two, inFirst ? with(pairs, a, b) : with(pairs, b, a), rounds)) {
                    return b;
                }
            }
            return -1;
        }

        boolean isAlike() {
            needPosition();
            return alike(left, right, pairs);
        }

        boolean answers(int rounds) {
            needPosition();
            range(rounds, 0, 3);
            return wins(left, right, pairs, rounds);
        }

        int answer(boolean inFirst, int thing, int rounds) {
            needPosition();
            range(rounds, 0, 2);
            thing(inFirst ? left : right, thing);
            int b = reply(left, right, pairs, inFirst, thing, rounds);
            if (b < 0) {
                throw new UnsupportedOperationException();
            }
            return b;
        }

        int types(int world, int rank) {
            PlainWorld w = at(world);
            range(rank, 0, 2);
            int count = 0;
            for (int a = 0; a < w.n; a++) {
                boolean isNew = true;
                for (int b = 0; b < a; b++) {
                    isNew &= !wins(w, w, with(new ArrayList<>(), b, a), rank);
                }
                count += isNew ? 1 : 0;
            }
            return count;
        }

        int apart(int first, int second) {
            PlainWorld one = at(first);
            PlainWorld two = at(second);
            for (int rounds = 0; rounds < 4; rounds++) {
                if (!wins(one, two, new ArrayList<>(), rounds)) {
                    return rounds;
                }
            }
            throw new NoSuchElementException();
        }

        // Positions of pebbles as bit sets of pairs a * 6 + b; the good ones shrink until nothing changes.
        boolean pebbles(int first, int second, int pebbles, boolean isCounting) {
            PlainWorld one = at(first);
            PlainWorld two = at(second);
            range(pebbles, 1, 2);
            Set<Long> good = new HashSet<>();
            good.add(0L);
            for (int x = 0; x < 36; x++) {
                for (int y = x; y < 36; y++) {
                    if (x / 6 < one.n && x % 6 < two.n && y / 6 < one.n && y % 6 < two.n && (x == y || pebbles == 2)) {
                        List<int[]> laid = with(with(new ArrayList<>(), x / 6, x % 6), y / 6, y % 6);
                        if (alike(one, two, laid)) {
                            good.add(1L << x | 1L << y);
                        }
                    }
                }
            }
            boolean isChanged = true;
            while (isChanged) {
                isChanged = false;
                for (Long laid : new ArrayList<>(good)) {
                    if (!goesOn(one, two, laid, pebbles, isCounting, good)) {
                        good.remove(laid);
                        isChanged = true;
                    }
                }
            }
            return good.contains(0L);
        }

        // A set of one pair also stands for both pebbles lying on the same pair.
        private boolean goesOn(PlainWorld one, PlainWorld two, long laid, int pebbles, boolean isCounting, Set<Long> good) {
            List<Long> kept = new ArrayList<>();
            if (Long.bitCount(laid) < pebbles) {
                kept.add(laid);
            }
            if (Long.bitCount(laid) == pebbles) {
                for (int x = 0; x < 36; x++) {
                    if ((laid >> x & 1) == 1) {
                        kept.add(laid & ~(1L << x));
                    }
                }
            }
            for (long rest : kept) {
                if (isCounting ? !hasBijection(one, two, rest, good, 0, 0) : !hasReplies(one, two, rest, good)) {
                    return false;
                }
            }
            return true;
        }

        private boolean hasReplies(PlainWorld one, PlainWorld two, long rest, Set<Long> good) {
            for (int side = 0; side < 2; side++) {
                for (int a = 0; a < (side == 0 ? one.n : two.n); a++) {
                    boolean isMet = false;
                    for (int b = 0; b < (side == 0 ? two.n : one.n); b++) {
                        isMet |= good.contains(rest | 1L << (side == 0 ? a * 6 + b : b * 6 + a));
                    }
                    if (!isMet) {
                        return false;
                    }
                }
            }
            return true;
        }

        private boolean hasBijection(PlainWorld one, PlainWorld two, long rest, Set<Long> good, int a, int used) {
            if (one.n != two.n) {
                return false;
            }
            if (a == one.n) {
                return true;
            }
            for (int b = 0; b < two.n; b++) {
                if ((used >> b & 1) == 0 && good.contains(rest | 1L << (a * 6 + b))
                        && hasBijection(one, two, rest, good, a + 1, used | 1 << b)) {
                    return true;
                }
            }
            return false;
        }

        // ---- telling

        private static final String NAMES = "xyzuvw";

        static String told(PlainWorld one, PlainWorld two, List<int[]> pairs, int rounds) {
            if (!alike(one, two, pairs)) {
                for (char sign : new char[] {'E', 'F', '=', 'P', 'Q'}) {
                    for (int i = 0; i < pairs.size(); i++) {
                        for (int j = 0; j < pairs.size(); j++) {
                            boolean so = atom(one, sign, pairs.get(i)[0], pairs.get(j)[0]);
                            if (so != atom(two, sign, pairs.get(i)[1], pairs.get(j)[1])) {
                                String text = (so ? "" : "!") + sign + NAMES.charAt(i);
                                return "EF=".indexOf(sign) >= 0 ? text + NAMES.charAt(j) : text;
                            }
                        }
                    }
                }
            }
            if (wins(one, two, pairs, rounds) || pairs.size() >= 6) {
                return null;
            }
            for (int a = 0; a < one.n; a++) {
                if (reply(one, two, pairs, true, a, rounds - 1) < 0) {
                    return row(one, two, pairs, a, rounds - 1);
                }
            }
            for (int b = 0; b < two.n; b++) {
                if (reply(one, two, pairs, false, b, rounds - 1) < 0) {
                    List<int[]> crossed = new ArrayList<>();
                    for (int[] pair : pairs) {
                        crossed.add(new int[] {pair[1], pair[0]});
                    }
                    String text = row(two, one, crossed, b, rounds - 1);
                    return text == null || text.length() > 599 ? null : "!" + text;
                }
            }
            return null;
        }

        static String row(PlainWorld one, PlainWorld two, List<int[]> pairs, int a, int rounds) {
            List<String> parts = new ArrayList<>();
            for (int b = 0; b < two.n; b++) {
                String part = told(one, two, with(pairs, a, b), rounds);
                if (part == null) {
                    return null;
                }
                if (!parts.contains(part)) {
                    parts.add(part);
                }
            }
            String text = parts.get(parts.size() - 1);
            for (int i = parts.size() - 2; i >= 0; i--) {
                text = "&" + parts.get(i) + text;
            }
            text = "#" + NAMES.charAt(pairs.size()) + text;
            return text.length() > 600 ? null : text;
        }

        static boolean atom(PlainWorld w, char sign, int a, int b) {
            switch (sign) {
                case 'E':
                    return w.e[a][b];
                case 'F':
                    return w.f[a][b];
                case '=':
                    return a == b;
                case 'P':
                    return w.p[a];
                default:
                    return w.q[a];
            }
        }

        String told(int rounds) {
            return told(left, right, pairs, rounds);
        }

        int telling(int rounds) {
            needPosition();
            range(rounds, 0, 3);
            String text = told(rounds);
            if (text == null) {
                throw new UnsupportedOperationException();
            }
            return text.length();
        }

        char tellingAt(int rounds, int index) {
            int length = telling(rounds);
            if (index < 0 || index >= length) {
                throw new NoSuchElementException();
            }
            return told(rounds).charAt(index);
        }

        // ---- colours: written out as texts, numbered anew in each turn

        private static Map<String, Integer> number(List<String> texts) {
            Map<String, Integer> numbers = new HashMap<>();
            for (String text : texts) {
                numbers.putIfAbsent(text, numbers.size());
            }
            return numbers;
        }

        // The colours in the end, one list for all the worlds behind one another.
        private static List<Integer> refined(List<PlainWorld> all, boolean arePairs) {
            List<String> texts = new ArrayList<>();
            for (PlainWorld w : all) {
                for (int a = 0; a < w.n; a++) {
                    if (!arePairs) {
                        texts.add("" + w.p[a] + w.q[a] + w.e[a][a] + w.f[a][a]);
                    }
                    for (int b = 0; arePairs && b < w.n; b++) {
                        texts.add("" + w.e[a][b] + w.e[b][a] + w.f[a][b] + w.f[b][a] + w.p[a] + w.q[a] + w.p[b] + w.q[b] + (a == b));
                    }
                }
            }
            int before = 0;
            while (true) {
                Map<String, Integer> numbers = number(texts);
                List<Integer> tints = new ArrayList<>();
                for (String text : texts) {
                    tints.add(numbers.get(text));
                }
                if (numbers.size() == before) {
                    return tints;
                }
                before = numbers.size();
                texts = new ArrayList<>();
                int start = 0;
                for (PlainWorld w : all) {
                    for (int a = 0; a < w.n; a++) {
                        if (!arePairs) {
                            texts.add(tints.get(start + a) + seen(w, a, tints.subList(start, start + w.n)));
                        }
                        for (int b = 0; arePairs && b < w.n; b++) {
                            Map<String, Integer> counts = new TreeMap<>();
                            for (int c = 0; c < w.n; c++) {
                                counts.merge(tints.get(start + a * w.n + c) + ">" + tints.get(start + c * w.n + b), 1, Integer::sum);
                            }
                            texts.add(tints.get(start + a * w.n + b) + ":" + counts);
                        }
                    }
                    start += arePairs ? w.n * w.n : w.n;
                }
            }
        }

        private static String seen(PlainWorld w, int a, List<Integer> tints) {
            Map<String, Integer> counts = new TreeMap<>();
            for (int b = 0; b < w.n; b++) {
                if (w.e[a][b]) {
                    counts.merge("to " + tints.get(b), 1, Integer::sum);
                }
                if (w.e[b][a]) {
                    counts.merge("from " + tints.get(b), 1, Integer::sum);
                }
                if (w.f[a][b]) {
                    counts.merge("thread to " + tints.get(b), 1, Integer::sum);
                }
                if (w.f[b][a]) {
                    counts.merge("thread from " + tints.get(b), 1, Integer::sum);
                }
            }
            return counts.toString();
        }

        int colours(int world, boolean arePairs) {
            return new HashSet<>(refined(List.of(at(world)), arePairs)).size();
        }

        boolean areAlike(int first, int second, boolean arePairs) {
            PlainWorld one = at(first);
            PlainWorld two = at(second);
            List<Integer> tints = refined(List.of(one, two), arePairs);
            int split = arePairs ? one.n * one.n : one.n;
            List<Integer> a = new ArrayList<>(tints.subList(0, split));
            List<Integer> b = new ArrayList<>(tints.subList(split, tints.size()));
            a.sort(null);
            b.sort(null);
            return a.equals(b);
        }

        // ---- fixed points

        private boolean isUnderOdd(Node node, boolean isOdd) {
            if (node.left == null) {
                return node.sign == 'X' && isOdd;
            }
            boolean inner = node.sign == '!' ? !isOdd : isOdd;
            return isUnderOdd(node.left, inner) || node.right != null && isUnderOdd(node.right, inner);
        }

        private int[] grow(int world, int formula, int name, char kind) {
            PlainWorld w = at(world);
            Node node = formulaAt(formula);
            range(name, 0, 5);
            if ("lgw".indexOf(kind) < 0) {
                throw new IllegalArgumentException();
            }
            if ((freeOf(node) & ~(1 << name)) != 0 || kind == 'l' && isUnderOdd(node, false)) {
                throw new UnsupportedOperationException();
            }
            List<Integer> sets = new ArrayList<>();
            sets.add(0);
            int stages = 0;
            while (true) {
                int set = sets.get(sets.size() - 1);
                int next = kind == 'g' ? set : 0;
                for (int a = 0; a < w.n; a++) {
                    int[] values = new int[6];
                    values[name] = a;
                    next |= says(w, node, values, null, set) ? 1 << a : 0;
                }
                if (next == set) {
                    return new int[] {set, stages};
                }
                stages++;
                if (sets.contains(next)) {
                    return new int[] {0, stages};
                }
                sets.add(next);
            }
        }

        int fixed(int world, int formula, int name, char kind) {
            return grow(world, formula, name, kind)[0];
        }

        int stages(int world, int formula, int name, char kind) {
            return grow(world, formula, name, kind)[1];
        }

        int reaches(int world, int thing) {
            PlainWorld w = at(world);
            thing(w, thing);
            boolean[] there = new boolean[w.n];
            walk(w, thing, there);
            int count = 0;
            for (boolean is : there) {
                count += is ? 1 : 0;
            }
            return count;
        }

        private static void walk(PlainWorld w, int from, boolean[] there) {
            for (int b = 0; b < w.n; b++) {
                if (w.e[from][b] && !there[b]) {
                    there[b] = true;
                    walk(w, b, there);
                }
            }
        }

        private int orders(PlainWorld w, Node node, int[] order, int next, int used) {
            if (next == w.n) {
                return says(w, node, new int[6], order, 0) ? 1 : 0;
            }
            int count = 0;
            for (int a = 0; a < w.n; a++) {
                if ((used >> a & 1) == 0) {
                    order[next] = a;
                    count += orders(w, node, order, next + 1, used | 1 << a);
                }
            }
            return count;
        }

        int orders(int world, int formula) {
            PlainWorld w = at(world);
            Node node = formulaAt(formula);
            needClosed(node);
            return orders(w, node, new int[w.n], 0, 0);
        }

        int someSet(int world, int formula) {
            PlainWorld w = at(world);
            Node node = formulaAt(formula);
            needClosed(node);
            for (int set = 0; set < 1 << w.n; set++) {
                if (says(w, node, new int[6], null, set)) {
                    return set;
                }
            }
            throw new NoSuchElementException();
        }

        // ---- near and far

        private static int ballOf(PlainWorld w, int thing, int radius) {
            if (radius == 0) {
                return 1 << thing;
            }
            int inner = ballOf(w, thing, radius - 1);
            int ball = inner;
            for (int a = 0; a < w.n; a++) {
                for (int b = 0; b < w.n; b++) {
                    if ((inner >> a & 1) == 1 && (w.e[a][b] || w.e[b][a] || w.f[a][b] || w.f[b][a])) {
                        ball |= 1 << b;
                    }
                }
            }
            return ball;
        }

        int ball(int world, int thing, int radius) {
            PlainWorld w = at(world);
            thing(w, thing);
            range(radius, 0, 6);
            return ballOf(w, thing, radius);
        }

        private boolean isPairable(PlainWorld one, int ball, PlainWorld two, int otherBall, List<int[]> pairs) {
            if (Integer.bitCount(ball) != Integer.bitCount(otherBall)) {
                return false;
            }
            if (ball == 0) {
                return alike(one, two, pairs);
            }
            int a = Integer.numberOfTrailingZeros(ball);
            for (int b = 0; b < two.n; b++) {
                if ((otherBall >> b & 1) == 1 && isPairable(one, ball & ~(1 << a), two, otherBall & ~(1 << b), with(pairs, a, b))) {
                    return true;
                }
            }
            return false;
        }

        private boolean isKind(PlainWorld one, int a, PlainWorld two, int b, int radius) {
            return isPairable(one, ballOf(one, a, radius) & ~(1 << a), two, ballOf(two, b, radius) & ~(1 << b), with(new ArrayList<>(), a, b));
        }

        boolean areKind(int world, int thing, int other, int otherThing, int radius) {
            PlainWorld one = at(world);
            thing(one, thing);
            PlainWorld two = at(other);
            thing(two, otherThing);
            range(radius, 0, 6);
            return isKind(one, thing, two, otherThing, radius);
        }

        int kinds(int world, int radius) {
            PlainWorld w = at(world);
            range(radius, 0, 6);
            int count = 0;
            for (int a = 0; a < w.n; a++) {
                boolean isNew = true;
                for (int b = 0; b < a; b++) {
                    isNew &= !isKind(w, b, w, a, radius);
                }
                count += isNew ? 1 : 0;
            }
            return count;
        }

        int chance(int formula, int size) {
            Node node = formulaAt(formula);
            range(size, 1, 3);
            needClosed(node);
            int count = 0;
            for (int code = 0; code < 1 << size * size; code++) {
                PlainWorld w = new PlainWorld(size);
                for (int i = 0; i < size * size; i++) {
                    w.e[i / size][i % size] = (code >> i & 1) == 1;
                }
                count += says(w, node, new int[6], null, 0) ? 1 : 0;
            }
            return count;
        }

        // ---- maps

        private static boolean isMap(PlainWorld one, PlainWorld two, int[] images, int known) {
            for (int a = 0; a < known; a++) {
                if (one.p[a] && !two.p[images[a]] || one.q[a] && !two.q[images[a]]) {
                    return false;
                }
                for (int b = 0; b < known; b++) {
                    if (one.e[a][b] && !two.e[images[a]][images[b]] || one.f[a][b] && !two.f[images[a]][images[b]]) {
                        return false;
                    }
                }
            }
            return true;
        }

        private static int mapsFrom(PlainWorld one, PlainWorld two, int[] images, int next) {
            if (!isMap(one, two, images, next)) {
                return 0;
            }
            if (next == one.n) {
                return 1;
            }
            int count = 0;
            for (int b = 0; b < two.n; b++) {
                images[next] = b;
                count += mapsFrom(one, two, images, next + 1);
            }
            return count;
        }

        int maps(int first, int second) {
            PlainWorld one = at(first);
            PlainWorld two = at(second);
            return mapsFrom(one, two, new int[one.n], 0);
        }

        int core(int world) {
            PlainWorld w = at(world);
            int least = w.n;
            for (int set = 1; set < 1 << w.n; set++) {
                if (Integer.bitCount(set) < least && mapsFrom(w, part(w, set), new int[w.n], 0) > 0) {
                    least = Integer.bitCount(set);
                }
            }
            return least;
        }

        boolean areStepwise(int world, int thing, int other, int otherThing) {
            PlainWorld one = at(world);
            thing(one, thing);
            PlainWorld two = at(other);
            thing(two, otherThing);
            boolean[][] like = new boolean[one.n][two.n];
            for (int a = 0; a < one.n; a++) {
                for (int b = 0; b < two.n; b++) {
                    like[a][b] = one.p[a] == two.p[b] && one.q[a] == two.q[b];
                }
            }
            for (int turn = 0; turn < 50; turn++) {
                for (int a = 0; a < one.n; a++) {
                    for (int b = 0; b < two.n; b++) {
                        for (int c = 0; c < one.n; c++) {
                            boolean isMet = !one.e[a][c];
                            for (int d = 0; d < two.n; d++) {
                                isMet |= two.e[b][d] && like[c][d];
                            }
                            like[a][b] &= isMet;
                        }
                        for (int d = 0; d < two.n; d++) {
                            boolean isMet = !two.e[b][d];
                            for (int c = 0; c < one.n; c++) {
                                isMet |= one.e[a][c] && like[c][d];
                            }
                            like[a][b] &= isMet;
                        }
                    }
                }
            }
            return like[thing][otherThing];
        }

        int operations(int world) {
            PlainWorld w = at(world);
            if (w.n > 3) {
                throw new UnsupportedOperationException();
            }
            return mapsFrom(product(w, w), w, new int[w.n * w.n], 0);
        }

        float truth(int formula) {
            Node node = formulaAt(formula);
            needClosed(node);
            if (worlds.isEmpty()) {
                throw new ArithmeticException();
            }
            int count = 0;
            for (PlainWorld w : worlds) {
                count += says(w, node, new int[6], null, 0) ? 1 : 0;
            }
            return (float) count / worlds.size();
        }
    }
}
