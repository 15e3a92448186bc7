import java.util.NoSuchElementException;

/** Promise by promise: ordinary inputs, the edges that the document names, and wrong inputs. */
public final class PebblecourtPromises {
    private static final Class<?> RANGE = IllegalArgumentException.class;
    private static final Class<?> INDEX = IndexOutOfBoundsException.class;
    private static final Class<?> STATE = IllegalStateException.class;
    private static final Class<?> CANNOT = UnsupportedOperationException.class;
    private static final Class<?> NONE = NoSuchElementException.class;
    private static final Class<?> DIVIDE = ArithmeticException.class;
    private static int wrong = 0;
    private static String promise = "";

    private interface Call {
        Object run();
    }

    private static void is(String call, Object got, Object due) {
        if (!got.equals(due)) {
            wrong++;
            System.out.println(promise + ": " + call + " answered " + got + ", due is " + due);
        }
    }

    private static void refused(String call, Class<?> due, Call run) {
        Object got;
        try {
            got = run.run();
        } catch (RuntimeException e) {
            got = e.getClass();
        }
        is(call, got, due);
    }

    // "3:01,F12,P1" is a world of three things with a step from 0 to 1, a thread from 1 to 2, P on 1.
    private static int world(Pebblecourt p, String told) {
        int world = p.world(told.charAt(0) - '0');
        for (String part : told.substring(2).split(",")) {
            if (part.isEmpty()) {
                continue;
            }
            char kind = part.charAt(0);
            if (kind == 'P' || kind == 'Q') {
                p.marked(world, part.charAt(1) - '0', kind);
            } else if (kind == 'F') {
                p.threaded(world, part.charAt(1) - '0', part.charAt(2) - '0');
            } else {
                p.stepped(world, part.charAt(0) - '0', part.charAt(1) - '0');
            }
        }
        return world;
    }

    // The other way: steps, threads, P, Q; what was there is what is there after adding or taking twice.
    private static String told(Pebblecourt p, int world) {
        int n = p.size(world);
        StringBuilder text = new StringBuilder();
        StringBuilder threads = new StringBuilder();
        StringBuilder marks = new StringBuilder();
        StringBuilder others = new StringBuilder();
        for (int a = 0; a < n; a++) {
            for (int b = 0; b < n; b++) {
                p.stepped(world, a, b);
                text.append(p.stepped(world, a, b) ? "," + a + b : "");
                p.threaded(world, a, b);
                threads.append(p.threaded(world, a, b) ? ",F" + a + b : "");
            }
            p.marked(world, a, 'P');
            marks.append(p.marked(world, a, 'P') ? ",P" + a : "");
            p.marked(world, a, 'Q');
            others.append(p.marked(world, a, 'Q') ? ",Q" + a : "");
        }
        String all = text.append(threads).append(marks).append(others).toString();
        return n + ":" + (all.isEmpty() ? "" : all.substring(1));
    }

    private static void typeAll(Pebblecourt p, String text) {
        for (int i = 0; i < text.length(); i++) {
            p.type(text.charAt(i));
        }
    }

    private static int formula(Pebblecourt p, String text) {
        typeAll(p, text);
        return p.formula();
    }

    private static void fault(String text, int due) {
        Pebblecourt p = new Pebblecourt();
        typeAll(p, text);
        is("fault of " + text, p.fault(), due);
        if (due < 0) {
            is("formula of " + text, p.formula(), 0);
        } else {
            refused("formula of " + text, CANNOT, () -> p.formula());
        }
    }

    private static String telling(Pebblecourt p, int rounds) {
        int length = p.telling(rounds);
        StringBuilder text = new StringBuilder();
        for (int i = 0; i < length; i++) {
            text.append(p.tellingAt(rounds, i));
        }
        refused("tellingAt behind the end", NONE, () -> p.tellingAt(rounds, length));
        refused("tellingAt ahead of the start", NONE, () -> p.tellingAt(rounds, -1));
        return text.toString();
    }

    private static final String PATH = "3:01,12";
    private static final String RING = "3:01,12,20";
    private static final String SIX_RING = "6:01,12,23,34,45,50,10,21,32,43,54,05";
    private static final String TWO_RINGS = "6:01,12,20,10,21,02,34,45,53,43,54,35";
    private static final String ORDER_TWO = "2:01";
    private static final String ORDER_THREE = "3:01,02,12";
    private static final String ORDER_FOUR = "4:01,02,03,12,13,23";

    public static void main(String[] args) {
        newObject();
        worldsAndRelations();
        newWorlds();
        typing();
        formulas();
        saying();
        ways();
        positions();
        rounds();
        pebbles();
        typesAndApart();
        tellings();
        longTellings();
        colours();
        fixedPoints();
        ordersAndSets();
        balls();
        chances();
        maps();
        stepwiseAndOperations();
        wholeCourt();
        nothingChanges();
        if (wrong > 0) {
            System.exit(1);
        }
        System.out.println("PebblecourtPromises: all answers are as due");
    }

    private static void newObject() {
        promise = "promise 1";
        Pebblecourt p = new Pebblecourt();
        is("worlds()", p.worlds(), 0);
        is("fault()", p.fault(), 0);
        is("erase()", p.erase(), 0);
        refused("size(0)", INDEX, () -> p.size(0));
        refused("free(0)", INDEX, () -> p.free(0));
        refused("isAlike()", NONE, () -> p.isAlike());
        is("let(5, 5)", p.let(5, 5), 0);
    }

    private static void worldsAndRelations() {
        promise = "promise 2";
        Pebblecourt p = new Pebblecourt();
        refused("world(0)", RANGE, () -> p.world(0));
        refused("world(7)", RANGE, () -> p.world(7));
        refused("world(least int)", RANGE, () -> p.world(Integer.MIN_VALUE));
        is("worlds() after refusals", p.worlds(), 0);
        is("world(1)", p.world(1), 0);
        is("world(6)", p.world(6), 1);
        for (char what : "EFPQ".toCharArray()) {
            is("many(1, " + what + ")", p.many(1, what), 0);
        }
        for (int i = 2; i < 12; i++) {
            is("world(2)", p.world(2), i);
        }
        refused("world(2), the 13th", STATE, () -> p.world(2));
        refused("world(0), the 13th", RANGE, () -> p.world(0));
        is("worlds()", p.worlds(), 12);

        promise = "promise 3";
        is("stepped there", p.stepped(1, 5, 0), true);
        is("one step", p.many(1, 'E'), 1);
        is("stepped back is another", p.stepped(1, 0, 5), true);
        is("stepped to itself", p.stepped(1, 3, 3), true);
        is("three steps", p.many(1, 'E'), 3);
        is("stepped away", p.stepped(1, 5, 0), false);
        is("two steps", p.many(1, 'E'), 2);
        is("no threads by it", p.many(1, 'F'), 0);
        is("no other world's", p.many(2, 'E'), 0);
        refused("stepped(12,0,0)", INDEX, () -> p.stepped(12, 0, 0));
        refused("stepped(-1,0,0)", INDEX, () -> p.stepped(-1, 0, 0));
        refused("stepped(0,1,0)", INDEX, () -> p.stepped(0, 1, 0));
        refused("stepped(0,0,1)", INDEX, () -> p.stepped(0, 0, 1));
        refused("stepped(1,-1,0)", INDEX, () -> p.stepped(1, -1, 0));
        refused("stepped(1,0,6)", INDEX, () -> p.stepped(1, 0, 6));
        is("two steps still", p.many(1, 'E'), 2);

        promise = "promise 4";
        is("threaded there", p.threaded(1, 2, 4), true);
        is("one thread", p.many(1, 'F'), 1);
        is("steps stay", p.many(1, 'E'), 2);
        is("threaded away", p.threaded(1, 2, 4), false);
        is("no thread", p.many(1, 'F'), 0);
        refused("threaded(12,0,0)", INDEX, () -> p.threaded(12, 0, 0));
        refused("threaded(1,6,0)", INDEX, () -> p.threaded(1, 6, 0));
        refused("threaded(1,0,-1)", INDEX, () -> p.threaded(1, 0, -1));

        promise = "promise 5";
        is("marked P", p.marked(1, 4, 'P'), true);
        is("marked Q", p.marked(1, 4, 'Q'), true);
        is("marked P again", p.marked(1, 4, 'P'), false);
        is("P none", p.many(1, 'P'), 0);
        is("Q one", p.many(1, 'Q'), 1);
        refused("marked(1,0,'E')", RANGE, () -> p.marked(1, 0, 'E'));
        refused("marked(1,0,'p')", RANGE, () -> p.marked(1, 0, 'p'));
        refused("marked(1,6,'E')", INDEX, () -> p.marked(1, 6, 'E'));
        refused("marked(12,0,'E')", INDEX, () -> p.marked(12, 0, 'E'));

        promise = "promise 10";
        is("size(0)", p.size(0), 1);
        is("size(1)", p.size(1), 6);
        refused("size(12)", INDEX, () -> p.size(12));
        refused("size(-1)", INDEX, () -> p.size(-1));

        promise = "promise 11";
        p.stepped(1, 1, 1);
        p.threaded(1, 0, 0);
        p.marked(1, 1, 'P');
        p.marked(1, 2, 'P');
        is("many E", p.many(1, 'E'), 3);
        is("many F", p.many(1, 'F'), 1);
        is("many P", p.many(1, 'P'), 2);
        is("many Q", p.many(1, 'Q'), 1);
        refused("many(1,'X')", RANGE, () -> p.many(1, 'X'));
        refused("many(1,'e')", RANGE, () -> p.many(1, 'e'));
        refused("many(12,'X')", INDEX, () -> p.many(12, 'X'));
    }

    private static void newWorlds() {
        promise = "promise 6";
        Pebblecourt p = new Pebblecourt();
        int a = world(p, "2:01,11,F10,P0,Q0");
        int b = world(p, "3:02,12,F10,F00,P0,P2,Q1");
        int sum = p.join(a, b, false);
        is("join", sum, 2);
        is("sum", told(p, sum), "5:01,11,24,34,F10,F22,F32,P0,P2,P4,Q0,Q3");
        is("product", told(p, p.join(a, b, true)), "6:05,15,35,45,F30,F40,P0,P2,Q1");
        is("with itself", told(p, p.join(a, a, true)), "4:03,13,23,33,F30,P0,Q0");
        refused("sum of 7", CANNOT, () -> p.join(sum, a, false));
        refused("product of 9", CANNOT, () -> p.join(b, b, true));
        is("sum of 6", p.size(p.join(b, b, false)), 6);
        refused("join(9,0)", INDEX, () -> p.join(9, 0, false));
        refused("join(0,9)", INDEX, () -> p.join(0, 9, true));
        refused("join(0,-1)", INDEX, () -> p.join(0, -1, true));

        promise = "promise 7";
        Pebblecourt r = new Pebblecourt();
        int c = world(r, "3:01,22,F12,P1,Q2");
        is("turned", r.turned(c), 1);
        is("turned world", told(r, 1), "3:00,02,10,11,12,20,21,F12,P1,Q2");
        is("the other one stays", told(r, c), "3:01,22,F12,P1,Q2");
        refused("turned(2)", INDEX, () -> r.turned(2));
        refused("turned(-1)", INDEX, () -> r.turned(-1));

        promise = "promise 8";
        Pebblecourt s = new Pebblecourt();
        int d = world(s, "4:01,13,31,33,F12,F30,P1,P2,Q3");
        is("part", s.part(d, 2 + 8), 1);
        is("part of 1 and 3", told(s, 1), "2:01,10,11,P0,Q1");
        is("part of 0 and 3", told(s, s.part(d, 1 + 8)), "2:11,F10,Q1");
        is("all of it", told(s, s.part(d, 15)), "4:01,13,31,33,F12,F30,P1,P2,Q3");
        refused("part(0,0)", RANGE, () -> s.part(d, 0));
        refused("part(0,16)", RANGE, () -> s.part(d, 16));
        refused("part(0,-1)", RANGE, () -> s.part(d, -1));
        refused("part(9,0)", INDEX, () -> s.part(9, 0));

        promise = "promise 9";
        Pebblecourt t = new Pebblecourt();
        int e = world(t, "3:01,12,F02,P1,Q0");
        is("made", t.made(e, formula(t, "#z&ExzEzy")), 1);
        is("made world", told(t, 1), "3:02,P1,Q0");
        is("made of x alone", told(t, t.made(e, formula(t, "Px"))), "3:10,11,12,P1,Q0");
        is("made of y alone", told(t, t.made(e, formula(t, "Py"))), "3:01,11,21,P1,Q0");
        is("made of the order", told(t, t.made(e, formula(t, "<xy"))), "3:01,02,12,P1,Q0");
        is("made of threads", told(t, t.made(e, formula(t, "Fyx"))), "3:20,P1,Q0");
        is("made of the empty set", told(t, t.made(e, formula(t, "Xx"))), "3:P1,Q0");
        is("made without free names", t.many(t.made(e, formula(t, "#zPz")), 'E'), 9);
        int three = formula(t, "Exz");
        refused("made with z", CANNOT, () -> t.made(e, three));
        refused("made(0,30)", INDEX, () -> t.made(e, 30));
        refused("made(30,z)", INDEX, () -> t.made(30, three));

        promise = "promises 6 to 9, twelve worlds";
        for (int i = t.worlds(); i < 12; i++) {
            t.world(1);
        }
        refused("join", STATE, () -> t.join(11, 11, false));
        refused("turned", STATE, () -> t.turned(e));
        refused("part", STATE, () -> t.part(e, 1));
        refused("made", STATE, () -> t.made(e, 0));
        refused("join of too many", CANNOT, () -> t.join(e, e, true));
        refused("part of nothing", RANGE, () -> t.part(e, 0));
        refused("made with z", CANNOT, () -> t.made(e, three));
        refused("turned(12)", INDEX, () -> t.turned(12));
        is("worlds()", t.worlds(), 12);
    }

    private static void typing() {
        promise = "promise 12";
        Pebblecourt p = new Pebblecourt();
        String all = "EF=<PQX!&|#@123456xyzuvw";
        for (int i = 0; i < all.length(); i++) {
            is("type(" + all.charAt(i) + ")", p.type(all.charAt(i)), i + 1);
        }
        int refusals = 0;
        for (char sign = 0; sign < 300; sign++) {
            if (all.indexOf(sign) < 0) {
                char typed = sign;
                refused("type number " + (int) sign, RANGE, () -> p.type(typed));
                refusals++;
            }
            if (refusals > 270) {
                break;
            }
        }
        for (int i = all.length(); i < 40; i++) {
            is("type(!)", p.type('!'), i + 1);
        }
        refused("type(!), the 41st", STATE, () -> p.type('!'));
        refused("type(a), the 41st", RANGE, () -> p.type('a'));

        promise = "promise 13";
        is("erase()", p.erase(), 40);
        is("erase() again", p.erase(), 0);
        is("type(E)", p.type('E'), 1);

        promise = "promise 14";
        refused("formula of E", CANNOT, () -> p.formula());
        is("the buffer stays", p.erase(), 1);
        refused("formula of nothing", CANNOT, () -> p.formula());
        for (int i = 0; i < 20; i++) {
            is("formula", formula(p, i % 2 == 0 ? "Px" : "#xPx"), i);
            is("the buffer is empty then", p.fault(), 0);
        }
        typeAll(p, "Px");
        refused("formula, the 21st", STATE, () -> p.formula());
        p.type('E');
        refused("no formula, the 21st", CANNOT, () -> p.formula());
        is("the buffer stays", p.erase(), 3);
        refused("free(20)", INDEX, () -> p.free(20));

        promise = "promise 15";
        fault("", 0);
        fault("Exy", -1);
        fault("Fxx", -1);
        fault("=uv", -1);
        fault("<wz", -1);
        fault("Px", -1);
        fault("Qy", -1);
        fault("Xw", -1);
        fault("E", 1);
        fault("Ex", 2);
        fault("x", 0);
        fault("EEx", 1);
        fault("Exyz", 3);
        fault("Pxy", 2);
        fault("PxPx", 2);
        fault("!", 1);
        fault("&Px", 3);
        fault("&PxQy", -1);
        fault("&PxQyP", 5);
        fault("|&PxPyX", 7);
        fault("#", 1);
        fault("#P", 1);
        fault("#x", 2);
        fault("#xx", 2);
        fault("3xPx", -1);
        fault("11xPx", 1);
        fault("6w!!&Pw|QwXw", -1);
        fault("Px!", 2);
        fault("=xP", 2);
        fault("<P", 1);
        fault("X!", 1);
        fault("!!!!!!!!!!!!!!!!!!!!!!!!!!!!!!!!!!!!!!Px", -1);
        fault("!!!!!!!!!!!!!!!!!!!!!!!!!!!!!!!!!!!!!!!P", 40);
    }

    private static void measured(String text, int free, int rank, int width) {
        Pebblecourt p = new Pebblecourt();
        int f = formula(p, text);
        promise = "promise 16";
        is("free of " + text, p.free(f), free);
        promise = "promise 17";
        is("rank of " + text, p.rank(f), rank);
        promise = "promise 18";
        is("width of " + text, p.width(f), width);
    }

    private static void formulas() {
        measured("Exy", 3, 0, 2);
        measured("Fzz", 4, 0, 1);
        measured("Xu", 8, 0, 1);
        measured("=vw", 48, 0, 2);
        measured("#yExy", 1, 1, 2);
        measured("&Px#xQx", 1, 1, 1);
        measured("&#xQxPx", 1, 1, 1);
        measured("@x#yExy", 0, 2, 2);
        measured("#u=vw", 48, 1, 3);
        measured("|2xPx!#y3zEyz", 0, 2, 3);
        measured("#x#x4xPx", 0, 3, 1);
        measured("&#xPx#y!@z<yz", 0, 2, 3);
        measured("#x#y#z#u#v#wPx", 0, 6, 6);
        Pebblecourt p = new Pebblecourt();
        formula(p, "Px");
        promise = "promise 16";
        refused("free(1)", INDEX, () -> p.free(1));
        refused("free(-1)", INDEX, () -> p.free(-1));
        promise = "promise 17";
        refused("rank(1)", INDEX, () -> p.rank(1));
        refused("rank(-1)", INDEX, () -> p.rank(-1));
        promise = "promise 18";
        refused("width(1)", INDEX, () -> p.width(1));
        refused("width(-1)", INDEX, () -> p.width(-1));
    }

    private static void holds(String world, String text, int x, int y, boolean due) {
        Pebblecourt p = new Pebblecourt();
        int w = world(p, world);
        int f = formula(p, text);
        p.let(0, x);
        p.let(1, y);
        is(text + " in " + world + " of " + x + ", " + y, p.holds(w, f), due);
    }

    private static void saying() {
        promise = "promise 19";
        Pebblecourt p = new Pebblecourt();
        for (int name = 0; name < 6; name++) {
            is("let", p.let(name, 5 - name), 0);
        }
        for (int name = 0; name < 6; name++) {
            is("let again", p.let(name, 0), 5 - name);
        }
        refused("let(6,0)", RANGE, () -> p.let(6, 0));
        refused("let(-1,0)", RANGE, () -> p.let(-1, 0));
        refused("let(0,6)", RANGE, () -> p.let(0, 6));
        refused("let(0,-1)", RANGE, () -> p.let(0, -1));

        promise = "promise 20";
        String w = "3:01,12,F20,P1,Q2";
        holds(w, "Exy", 0, 1, true);
        holds(w, "Exy", 1, 0, false);
        holds(w, "Eyx", 1, 0, true);
        holds(w, "Fxy", 2, 0, true);
        holds(w, "Fxy", 0, 2, false);
        holds(w, "=xy", 1, 1, true);
        holds(w, "=xy", 1, 2, false);
        holds(w, "<xy", 0, 2, true);
        holds(w, "<xy", 2, 0, false);
        holds(w, "<xy", 1, 1, false);
        holds(w, "Px", 1, 0, true);
        holds(w, "Px", 2, 0, false);
        holds(w, "Qx", 2, 0, true);
        holds(w, "Xx", 2, 0, false);
        holds(w, "!Px", 2, 0, true);
        holds(w, "&PxQy", 1, 2, true);
        holds(w, "&PxQy", 1, 1, false);
        holds(w, "|PxQy", 1, 1, true);
        holds(w, "|PxQy", 0, 1, false);
        holds(w, "#yExy", 1, 0, true);
        holds(w, "#yExy", 2, 0, false);
        holds(w, "@y|=xy|ExyEyx", 1, 0, true);
        holds(w, "@y|=xy|ExyEyx", 0, 0, false);
        holds(w, "2x#yExy", 0, 0, true);
        holds(w, "3x#yExy", 0, 0, false);
        holds(w, "1xPx", 0, 0, true);
        holds(w, "1xXx", 0, 0, false);
        holds(w, "3y=xx", 0, 0, true);
        holds(w, "4y=xx", 0, 0, false);
        holds("6:", "6x=xx", 0, 0, true);
        holds("5:", "6x=xx", 0, 0, false);
        holds("6:P3", "5x!Px", 0, 0, true);
        holds("6:P3", "6x!Px", 0, 0, false);
        holds(w, "#x&Px#xQx", 0, 0, true);
        holds(w, "#x#x&PxQx", 0, 0, false);
        holds(w, "&#xPxPx", 0, 0, false);
        holds(w, "&#xPxPx", 1, 0, true);
        holds(w, "@x!Xx", 0, 0, true);
        holds("1:", "#x=xx", 0, 0, true);
        holds(w, "#x#y#z&Exy&EyzFzx", 0, 0, true);
        holds("6:01,12,23,34,45", "#x#y#z#u#v#w&Exy&Eyz&Ezu&EuvEvw", 0, 0, true);
        holds("6:01,12,23,34,54", "#x#y#z#u#v#w&Exy&Eyz&Ezu&EuvEvw", 0, 0, false);
        int a = world(p, w);
        int six = formula(p, "&=xy&Ezu&FvwQv");
        int[] things = {2, 2, 0, 1, 2, 0};
        for (int name = 0; name < 6; name++) {
            p.let(name, things[name]);
        }
        is("holds of six names", p.holds(a, six), true);
        for (int name = 0; name < 6; name++) {
            p.let(name, (things[name] + 1) % 3);
            is("holds of six names, another " + name, p.holds(a, six), false);
            p.let(name, things[name]);
        }
        int free = formula(p, "Pw");
        int closed = formula(p, "#wPw");
        p.let(5, 3);
        refused("holds of a thing that there is not", CANNOT, () -> p.holds(a, free));
        is("holds of no such name", p.holds(a, closed), true);
        refused("holds(1,0)", INDEX, () -> p.holds(1, free));
        refused("holds(0,3)", INDEX, () -> p.holds(a, 3));
        refused("holds(-1,-1)", INDEX, () -> p.holds(-1, -1));
        p.let(5, 1);
        is("holds", p.holds(a, free), true);
    }

    private static void ways(String world, String text, int due) {
        Pebblecourt p = new Pebblecourt();
        p.let(0, 5);
        is("ways of " + text + " in " + world, p.ways(world(p, world), formula(p, text)), due);
    }

    private static void ways() {
        promise = "promise 21";
        String w = "3:01,12,F20,P1";
        ways(w, "Exy", 2);
        ways(w, "Eyx", 2);
        ways(w, "Exx", 0);
        ways(w, "Px", 1);
        ways(w, "!Exy", 7);
        ways(w, "#yExy", 2);
        ways(w, "#xExy", 2);
        ways(w, "#xPx", 1);
        ways(w, "#xXx", 0);
        ways(w, "=uw", 3);
        ways(w, "<zv", 3);
        ways(w, "&PxExy", 1);
        ways(w, "|Px=zz", 9);
        ways(w, "#y&ExyEyz", 1);
        ways(w, "&=xy&=zu=vw", 27);
        ways("6:", "&=xx&=yy&=zz&=uu&=vv=ww", 46656);
        ways("6:01", "&=xx&=yy&=zz&=uu&=vvEwx", 1296);
        Pebblecourt p = new Pebblecourt();
        int a = world(p, w);
        int f = formula(p, "Px");
        refused("ways(1,0)", INDEX, () -> p.ways(1, f));
        refused("ways(0,1)", INDEX, () -> p.ways(a, 1));
        refused("ways(0,-1)", INDEX, () -> p.ways(a, -1));
    }

    private static void positions() {
        promise = "promise 22";
        Pebblecourt p = new Pebblecourt();
        int a = world(p, "3:01,12,P1");
        int b = world(p, "2:01");
        int c = world(p, "3:01,12,P1,Q2,F20");
        refused("position(0,9)", INDEX, () -> p.position(a, 9));
        refused("position(9,0)", INDEX, () -> p.position(9, a));
        refused("position(-1,0)", INDEX, () -> p.position(-1, a));
        refused("pair without a position", NONE, () -> p.pair(9, 9));
        is("position", p.position(a, b), 0);
        is("pair", p.pair(2, 1), 1);
        is("pair", p.pair(2, 1), 2);
        refused("position(0,9)", INDEX, () -> p.position(a, 9));
        is("position", p.position(b, a), 2);

        promise = "promise 23";
        refused("pair(2,0)", INDEX, () -> p.pair(2, 0));
        refused("pair(0,3)", INDEX, () -> p.pair(0, 3));
        refused("pair(-1,0)", INDEX, () -> p.pair(-1, 0));
        for (int i = 1; i <= 6; i++) {
            is("pair(1,2)", p.pair(1, 2), i);
        }
        refused("pair, the 7th", STATE, () -> p.pair(1, 2));
        refused("pair(1,3), the 7th", INDEX, () -> p.pair(1, 3));
        is("position", p.position(a, c), 6);

        promise = "promise 24";
        is("nothing is alike", p.isAlike(), true);
        p.pair(0, 0);
        is("0 0", p.isAlike(), true);
        p.pair(1, 1);
        is("1 1", p.isAlike(), true);
        p.pair(1, 1);
        is("1 1 twice", p.isAlike(), true);
        p.pair(2, 2);
        is("2 2, Q and F", p.isAlike(), false);
        p.marked(c, 2, 'Q');
        is("2 2, F", p.isAlike(), false);
        p.threaded(c, 2, 0);
        is("2 2", p.isAlike(), true);
        p.position(a, c);
        p.pair(0, 0);
        p.pair(0, 2);
        is("one is two", p.isAlike(), false);
        p.position(c, a);
        p.pair(0, 0);
        p.pair(2, 0);
        is("two are one", p.isAlike(), false);
        p.position(a, a);
        p.pair(0, 0);
        p.pair(1, 2);
        is("a step and none, and P", p.isAlike(), false);
        p.position(a, a);
        p.pair(1, 0);
        is("P and none", p.isAlike(), false);
        p.position(b, b);
        p.pair(0, 1);
        is("an end each", p.isAlike(), true);
        p.pair(1, 0);
        is("a step the other way", p.isAlike(), false);
    }

    private static void answers(String first, String second, int rounds, boolean due) {
        Pebblecourt p = new Pebblecourt();
        p.position(world(p, first), world(p, second));
        is("answers(" + rounds + ") of " + first + " and " + second, p.answers(rounds), due);
        p.position(1, 0);
        is("answers(" + rounds + ") of " + second + " and " + first, p.answers(rounds), due);
    }

    private static void rounds() {
        promise = "promise 25";
        answers(PATH, RING, 0, true);
        answers(PATH, RING, 1, true);
        answers(PATH, RING, 2, false);
        answers(ORDER_THREE, ORDER_FOUR, 2, true);
        answers(ORDER_THREE, ORDER_FOUR, 3, false);
        answers(ORDER_TWO, ORDER_THREE, 1, true);
        answers(ORDER_TWO, ORDER_THREE, 2, false);
        answers("2:", "3:", 2, true);
        answers("2:", "3:", 3, false);
        answers("3:", "6:", 3, true);
        answers("2:P0", "2:", 1, false);
        answers("2:P0", "2:Q0", 1, false);
        answers("1:F00", "1:", 1, false);
        answers("1:F00", "1:", 0, true);
        answers(SIX_RING, TWO_RINGS, 2, true);
        answers(SIX_RING, TWO_RINGS, 3, false);
        Pebblecourt p = new Pebblecourt();
        world(p, ORDER_THREE);
        world(p, ORDER_FOUR);
        world(p, "6:");
        refused("answers without a position", NONE, () -> p.answers(9));
        refused("answer without a position", NONE, () -> p.answer(true, 9, 9));
        p.position(2, 2);
        for (int i = 0; i < 6; i++) {
            p.pair(i, 5 - i);
        }
        is("answers beyond the sixth pair", p.answers(3), true);
        refused("answers(4)", RANGE, () -> p.answers(4));
        refused("answers(-1)", RANGE, () -> p.answers(-1));
        p.position(2, 2);
        p.pair(0, 0);
        p.pair(0, 1);
        is("answers unlike", p.answers(0), false);

        promise = "promise 26";
        refused("answer unlike", CANNOT, () -> p.answer(true, 0, 0));
        p.position(0, 1);
        is("answer 0 above", p.answer(false, 0, 1), 0);
        is("answer 1 above", p.answer(false, 1, 1), 1);
        is("answer 2 above", p.answer(false, 2, 1), 1);
        is("answer 3 above", p.answer(false, 3, 1), 2);
        is("answer 0", p.answer(true, 0, 1), 0);
        is("answer 1", p.answer(true, 1, 1), 1);
        is("answer 2", p.answer(true, 2, 1), 3);
        is("answer 2, no round behind", p.answer(true, 2, 0), 0);
        refused("answer 0, two rounds behind", CANNOT, () -> p.answer(true, 0, 2));
        is("answers(3)", p.answers(3), false);
        refused("answer(true,3,0)", INDEX, () -> p.answer(true, 3, 0));
        refused("answer(false,4,0)", INDEX, () -> p.answer(false, 4, 0));
        refused("answer(false,-1,0)", INDEX, () -> p.answer(false, -1, 0));
        refused("answer(true,3,3)", RANGE, () -> p.answer(true, 3, 3));
        refused("answer(true,0,-1)", RANGE, () -> p.answer(true, 0, -1));
        p.position(2, 2);
        p.pair(0, 1);
        is("answer to a thing that lies", p.answer(true, 0, 0), 1);
        is("answer to another thing", p.answer(true, 1, 0), 0);
        is("answer in the first", p.answer(false, 1, 2), 0);
        is("the pair is not added", p.position(2, 2), 1);
    }

    private static void pebbles(String first, String second, int pebbles, boolean plain, boolean counting) {
        Pebblecourt p = new Pebblecourt();
        int a = world(p, first);
        int b = world(p, second);
        String call = pebbles + " pebbles of " + first + " and " + second;
        is(call, p.pebbles(a, b, pebbles, false), plain);
        is(call + ", the other way", p.pebbles(b, a, pebbles, false), plain);
        is(call + ", counting", p.pebbles(a, b, pebbles, true), counting);
        is(call + ", counting, the other way", p.pebbles(b, a, pebbles, true), counting);
    }

    private static void pebbles() {
        promise = "promise 27";
        pebbles("2:", "3:", 1, true, false);
        pebbles("2:", "3:", 2, true, false);
        pebbles("1:", "2:", 1, true, false);
        pebbles("1:", "2:", 2, false, false);
        pebbles(PATH, RING, 1, true, true);
        pebbles(PATH, RING, 2, false, false);
        pebbles(SIX_RING, TWO_RINGS, 1, true, true);
        pebbles(SIX_RING, TWO_RINGS, 2, true, true);
        pebbles("3:P0", "3:P0,P1", 1, true, false);
        pebbles("3:P0", "3:P0,P1", 2, false, false);
        pebbles("5:P0,P1", "5:P0,P1,P2", 2, true, false);
        pebbles("3:P0", "3:P2", 2, true, true);
        pebbles("1:F00", "1:", 1, false, false);
        pebbles("1:Q0", "1:P0", 1, false, false);
        pebbles(ORDER_THREE, ORDER_FOUR, 2, false, false);
        pebbles("5:01,12,23,34", "6:01,12,23,34,45", 2, false, false);
        pebbles("5:10,21,32,43", "6:10,21,32,43,54", 2, false, false);
        pebbles("3:20", "4:21", 2, false, false);
        pebbles("4:01,10", "6:12,13,21,31", 2, false, false);
        pebbles("6:01,12,34,45", "6:01,12,23,45", 2, false, false);
        pebbles("6:01,12,34,45", "6:12,20,45,53", 2, true, true);
        pebbles("6:01,12,20,34,45,53", "6:01,12,23,34,45,50", 2, true, true);
        pebbles("6:00,11,22,33,44,55", "6:00,11,22,33,44,55", 2, true, true);
        Pebblecourt p = new Pebblecourt();
        int a = world(p, "2:");
        refused("pebbles(0,0,0)", RANGE, () -> p.pebbles(a, a, 0, true));
        refused("pebbles(0,0,3)", RANGE, () -> p.pebbles(a, a, 3, false));
        refused("pebbles(0,1,3)", INDEX, () -> p.pebbles(a, 1, 3, false));
        refused("pebbles(1,0,1)", INDEX, () -> p.pebbles(1, a, 1, false));
        refused("pebbles(0,-1,1)", INDEX, () -> p.pebbles(a, -1, 1, false));
    }

    private static void types(String world, int rank, int due) {
        Pebblecourt p = new Pebblecourt();
        is("types of rank " + rank + " of " + world, p.types(world(p, world), rank), due);
    }

    private static void apart(String first, String second, int due) {
        Pebblecourt p = new Pebblecourt();
        is("apart of " + first + " and " + second, p.apart(world(p, first), world(p, second)), due);
        is("apart of " + second + " and " + first, p.apart(1, 0), due);
    }

    private static void never(String first, String second) {
        Pebblecourt p = new Pebblecourt();
        world(p, first);
        world(p, second);
        refused("apart of " + first + " and " + second, NONE, () -> p.apart(0, 1));
    }

    private static void typesAndApart() {
        promise = "promise 28";
        types(ORDER_FOUR, 0, 1);
        types(ORDER_FOUR, 1, 3);
        types(ORDER_FOUR, 2, 4);
        types("3:P1", 0, 2);
        types("4:P0,Q1,00", 0, 3);
        types("4:P0,Q0,11,F22", 0, 4);
        types(SIX_RING, 2, 1);
        types("5:01,12,23,34", 1, 3);
        types("5:01,12,23,34", 2, 5);
        types("1:", 2, 1);
        Pebblecourt p = new Pebblecourt();
        int a = world(p, PATH);
        int b = world(p, RING);
        refused("types(0,3)", RANGE, () -> p.types(a, 3));
        refused("types(0,-1)", RANGE, () -> p.types(a, -1));
        refused("types(2,3)", INDEX, () -> p.types(2, 3));

        promise = "promise 29";
        apart("2:P0", "2:", 1);
        apart("2:00", "2:", 1);
        apart("1:", "2:", 2);
        apart(PATH, RING, 2);
        apart("2:", "3:", 3);
        apart(ORDER_THREE, ORDER_FOUR, 3);
        apart(SIX_RING, TWO_RINGS, 3);
        never("3:", "4:");
        never(PATH, "3:21,10");
        never(SIX_RING, SIX_RING);
        refused("apart(0,2)", INDEX, () -> p.apart(a, 2));
        refused("apart(-1,0)", INDEX, () -> p.apart(-1, b));
    }

    private static void tells(String first, String second, String pairs, int rounds, String due) {
        Pebblecourt p = new Pebblecourt();
        p.position(world(p, first), world(p, second));
        for (int i = 0; i + 1 < pairs.length(); i += 2) {
            p.pair(pairs.charAt(i) - '0', pairs.charAt(i + 1) - '0');
        }
        String call = "telling(" + rounds + ") of " + first + " and " + second + " by " + pairs;
        if (due.isEmpty()) {
            refused(call, CANNOT, () -> p.telling(rounds));
            refused(call + ", a sign", CANNOT, () -> p.tellingAt(rounds, 0));
        } else {
            is(call, telling(p, rounds), due);
            is(call + ", its length", p.telling(rounds), due.length());
        }
        is("isSound", p.isSound(), true);
    }

    private static void tellings() {
        promise = "promises 30 and 31";
        tells("2:01,P0", "2:10,P1", "0011", 0, "Exy");
        tells("2:10,P1", "2:01,P0", "0011", 0, "!Exy");
        tells("2:10,P1", "2:01,P0", "0011", 3, "!Exy");
        tells("2:", "2:", "0001", 1, "=xy");
        tells("2:", "2:", "0010", 1, "!=xy");
        tells("1:F00", "1:P0", "00", 0, "Fxx");
        tells("1:Q0", "1:P0", "00", 0, "!Px");
        tells("2:Q0,P1", "2:", "0011", 0, "Py");
        tells("2:Q1", "2:", "0011", 0, "Qy");
        tells("2:F00,10", "2:", "0011", 0, "Eyx");
        tells("6:P5", "6:", "001122334455", 0, "Pw");
        tells("2:P1", "2:", "", 1, "#xPx");
        tells("2:", "2:P1", "", 1, "!#xPx");
        tells("2:", "2:P1", "", 2, "#x&#y&!=xy!Py!Px");
        tells("2:P1", "2:", "00", 1, "#y&!=xyPy");
        tells("2:P1", "2:", "0000000000", 1, "#w&!=xwPw");
        tells("2:P1", "2:", "000000000000", 1, "");
        tells("2:P1", "2:", "0000000000", 0, "");
        tells("2:", "2:", "00", 3, "");
        tells("1:", "2:", "", 2, "#x!#y!=xy");
        tells("2:", "1:", "", 2, "#x#y!=xy");
        String told = "#x&#y&!=xy&!Exy!Eyx&#y&!Eyx&!=xy!Exy#y&!Exy&!Eyx!=xy";
        tells(PATH, RING, "", 2, told);
        tells(RING, PATH, "", 2, "!" + told);
        tells(PATH, RING, "", 1, "");
        tells(PATH, RING, "00", 1, "#y&!=xy&!Exy!Eyx");
        Pebblecourt p = new Pebblecourt();
        world(p, "2:P0");
        world(p, "2:");
        refused("telling without a position", NONE, () -> p.telling(9));
        refused("tellingAt without a position", NONE, () -> p.tellingAt(9, 0));
        p.position(0, 1);
        refused("telling(4)", RANGE, () -> p.telling(4));
        refused("telling(-1)", RANGE, () -> p.telling(-1));
        refused("tellingAt(4,0)", RANGE, () -> p.tellingAt(4, 0));
        refused("tellingAt(-1,0)", RANGE, () -> p.tellingAt(-1, 0));
        refused("tellingAt(1,4)", NONE, () -> p.tellingAt(1, 4));
        refused("tellingAt(0,0)", CANNOT, () -> p.tellingAt(0, 0));
        p.marked(0, 0, 'P');
        refused("telling of what is like by now", CANNOT, () -> p.telling(1));
    }

    // Lengths that PebblecourtAgainstPlain's plain court tells; the last ones have 601, 679 and 679 signs.
    private static void longTellings() {
        promise = "promises 30 and 31, long ones";
        tellsSoMany("5:01,12,23,34,40", "6:01,12,23,34,45,50", 276);
        tellsSoMany("6:01,12,23,34,45,50", "5:01,12,23,34,40", 271);
        tellsSoMany("5:04,F13,14,F14,F23,24,F24,30,31,F31,34,F34,F41,F42,F43", "6:04,12,23,31,34,45,50", 595);
        tellsSoMany("5:01,02,03,F03,04,10,12,13,14,20,F20,21,F21,23,F23,24,30,31,F31,F32,34,40,41,42,43",
                "6:01,02,F02,03,04,05,10,F10,12,13,14,15,20,21,F21,23,24,25,30,31,32,34,35,F35,40,41,42,43,F43,45,"
                + "50,51,52,53,54,F54", -1);
        tellsSoMany("5:04,F13,14,F14,23,F23,F24,30,31,F31,32,F34,41,F41,42,F42,43,F43", "6:04,12,23,31,45,50", -1);
        tellsSoMany("5:02,23,F23,24,30,32,34", "6:04,12,23,31,45,50", -1);
    }

    private static void tellsSoMany(String first, String second, int due) {
        Pebblecourt p = new Pebblecourt();
        p.position(world(p, first), world(p, second));
        is("answers(3)", p.answers(3), false);
        if (due < 0) {
            refused("telling(3) of " + first + " and " + second, CANNOT, () -> p.telling(3));
            refused("tellingAt(3, 0)", CANNOT, () -> p.tellingAt(3, 0));
        } else {
            is("telling(3) of " + first + " and " + second, p.telling(3), due);
            is("tellingAt(3, 0)", p.tellingAt(3, 0), '#');
            refused("tellingAt behind the end", NONE, () -> p.tellingAt(3, due));
        }
        is("isSound", p.isSound(), true);
    }

    private static void colours(String world, boolean arePairs, int due) {
        Pebblecourt p = new Pebblecourt();
        is("colours of " + world + (arePairs ? " of two" : " of one"), p.colours(world(p, world), arePairs), due);
    }

    private static void alike(String first, String second, boolean ofOne, boolean ofTwo) {
        Pebblecourt p = new Pebblecourt();
        int a = world(p, first);
        int b = world(p, second);
        String call = "areAlike of " + first + " and " + second;
        is(call, p.areAlike(a, b, false), ofOne);
        is(call + ", of two", p.areAlike(a, b, true), ofTwo);
        is(call + ", the other way", p.areAlike(b, a, false), ofOne);
        is("isSound", p.isSound(), true);
    }

    private static void colours() {
        promise = "promise 32";
        colours("4:", false, 1);
        colours("4:", true, 2);
        colours("1:", true, 1);
        colours(PATH, false, 3);
        colours(PATH, true, 9);
        colours(RING, false, 1);
        colours(RING, true, 3);
        colours(SIX_RING, false, 1);
        colours(SIX_RING, true, 4);
        colours(TWO_RINGS, false, 1);
        colours(TWO_RINGS, true, 3);
        colours("2:F01", false, 2);
        colours("2:00", false, 2);
        colours("2:F11", false, 2);
        colours("3:P0,Q1", false, 3);
        colours("4:P0", true, 5);
        colours("6:01,12,23,34,45", false, 6);
        colours("6:01,12,23,34,45", true, 36);
        colours("6:10,22,33,44", true, 17);
        colours("6:03,30,55", true, 11);
        colours("4:02,20,33", true, 10);
        colours("4:01,12,20,F20", true, 16);
        Pebblecourt p = new Pebblecourt();
        int a = world(p, "2:");
        refused("colours(1)", INDEX, () -> p.colours(1, false));
        refused("colours(-1)", INDEX, () -> p.colours(-1, true));

        promise = "promise 33";
        alike(SIX_RING, TWO_RINGS, true, false);
        alike("2:", "3:", false, false);
        alike(PATH, "3:21,10", true, true);
        alike(PATH, RING, false, false);
        alike("2:P0", "2:", false, false);
        alike("2:P0", "2:P1", true, true);
        alike("2:P0", "2:Q1", false, false);
        alike("2:F01", "2:01", false, false);
        alike("3:P0,P1", "3:P0", false, false);
        alike("4:01,10,23,32", "4:01,12,23,30", true, false);
        alike("6:03,30,55", "6:12,21,00", true, true);
        alike("6:03,30,55", "6:12,21,00,33", false, false);
        is("a world and itself", p.areAlike(a, a, true), true);
        refused("areAlike(0,1)", INDEX, () -> p.areAlike(a, 1, false));
        refused("areAlike(1,0)", INDEX, () -> p.areAlike(1, a, true));
    }

    private static void grows(String world, String text, int name, char kind, int set, int stages) {
        Pebblecourt p = new Pebblecourt();
        int w = world(p, world);
        int f = formula(p, text);
        String call = " of " + text + " in " + world + ", " + kind;
        promise = "promise 34";
        is("fixed" + call, p.fixed(w, f, name, kind), set);
        promise = "promise 35";
        is("stages" + call, p.stages(w, f, name, kind), stages);
    }

    private static void growsNot(String text, int name, char kind, Class<?> due) {
        Pebblecourt p = new Pebblecourt();
        int w = world(p, PATH);
        int f = formula(p, text);
        promise = "promise 34";
        refused("fixed of " + text + ", " + kind, due, () -> p.fixed(w, f, name, kind));
        refused("fixed of no world", INDEX, () -> p.fixed(1, f, name, kind));
        refused("fixed of no formula", INDEX, () -> p.fixed(w, 1, name, kind));
        promise = "promise 35";
        refused("stages of " + text + ", " + kind, due, () -> p.stages(w, f, name, kind));
        refused("stages of no world", INDEX, () -> p.stages(-1, f, name, kind));
        refused("stages of no formula", INDEX, () -> p.stages(w, -1, name, kind));
    }

    private static void reaches(String world, int thing, int due) {
        Pebblecourt p = new Pebblecourt();
        is("reaches of " + thing + " in " + world, p.reaches(world(p, world), thing), due);
    }

    private static void fixedPoints() {
        String path = "4:01,12,23,P0";
        for (char kind : "lgw".toCharArray()) {
            grows(path, "|Px#y&XyEyx", 0, kind, 15, 4);
            grows(path, "|Py#x&XxExy", 1, kind, 15, 4);
            grows(path, "|Px#y&!!XyEyx", 0, kind, 15, 4);
            grows(path, "!#y&<yx!Xy", 0, kind, 15, 4);
            grows(path, "#yPy", 0, kind, 15, 1);
            grows(path, "#yQy", 5, kind, 0, 0);
            grows(path, "Px", 0, kind, 1, 1);
            grows(path, "Xx", 0, kind, 0, 0);
        }
        grows(path, "!#yXy", 0, 'g', 15, 1);
        grows(path, "!#yXy", 0, 'w', 0, 2);
        String steps = "|&Px!#yXy#y&XyEyx";
        grows("3:01,12,20,P0", steps, 0, 'w', 0, 4);
        grows("3:01,12,20,P0", steps, 0, 'g', 7, 3);
        grows(path, steps, 0, 'w', 0, 5);
        grows("3:01,12,22,P0", steps, 0, 'w', 4, 3);
        grows(path, "&!Xx@y|!<yxXy", 0, 'w', 0, 3);
        grows(path, "&!Xx@y|!<yxXy", 0, 'g', 15, 4);
        growsNot("!Xx", 0, 'l', CANNOT);
        growsNot("|Xx!Xx", 0, 'l', CANNOT);
        growsNot("!#y!@z!Xz", 0, 'l', CANNOT);
        growsNot("Exy", 0, 'g', CANNOT);
        growsNot("Exy", 1, 'w', CANNOT);
        growsNot("Xy", 0, 'l', CANNOT);
        growsNot("Exy", 6, 'l', RANGE);
        growsNot("Exy", -1, 'l', RANGE);
        growsNot("Exy", 0, 'x', RANGE);
        growsNot("Exy", 0, 'L', RANGE);

        promise = "promise 36";
        reaches(path, 0, 3);
        reaches(path, 2, 1);
        reaches(path, 3, 0);
        reaches(RING, 1, 3);
        reaches("2:11", 1, 1);
        reaches("3:F01,F12", 0, 0);
        reaches("6:01,12,23,34,45,53", 0, 5);
        reaches("6:01,12,23,34,45,50", 4, 6);
        Pebblecourt p = new Pebblecourt();
        int a = world(p, "2:");
        refused("reaches(0,2)", INDEX, () -> p.reaches(a, 2));
        refused("reaches(0,-1)", INDEX, () -> p.reaches(a, -1));
        refused("reaches(1,0)", INDEX, () -> p.reaches(1, 0));
    }

    private static void orders(String world, String text, int due) {
        Pebblecourt p = new Pebblecourt();
        is("orders of " + text + " in " + world, p.orders(world(p, world), formula(p, text)), due);
    }

    private static void someSet(String world, String text, int due) {
        Pebblecourt p = new Pebblecourt();
        int w = world(p, world);
        int f = formula(p, text);
        if (due < 0) {
            refused("someSet of " + text + " in " + world, NONE, () -> p.someSet(w, f));
        } else {
            is("someSet of " + text + " in " + world, p.someSet(w, f), due);
        }
    }

    private static void ordersAndSets() {
        promise = "promise 37";
        String falling = "@x@y|!Exy<xy";
        orders("3:", "#x@y|=xy<xy", 6);
        orders(PATH, falling, 1);
        orders("3:20", falling, 3);
        orders(RING, falling, 0);
        orders("6:", falling, 720);
        orders("6:01", falling, 360);
        orders("6:54,43,32,21,10", falling, 1);
        orders("1:", falling, 1);
        orders("1:00", falling, 0);
        orders("3:P0", "#x&Px@y|=xy<xy", 2);
        orders("3:P0", "#xPx", 6);
        orders("3:P0", "#xQx", 0);
        orders("3:P0", "#xXx", 0);
        orders("5:", "#x<xx", 0);
        Pebblecourt p = new Pebblecourt();
        int a = world(p, "2:P0");
        int free = formula(p, "Xx");
        int closed = formula(p, "#x&Xx!Xx");
        refused("orders of x", CANNOT, () -> p.orders(a, free));
        refused("orders(1,0)", INDEX, () -> p.orders(1, free));
        refused("orders(0,2)", INDEX, () -> p.orders(a, 2));
        is("the order is that of numbers again", p.holds(a, formula(p, "#x#y&<xyPx")), true);

        promise = "promise 38";
        someSet("3:", "#xXx", 1);
        someSet("3:P2", "#x&XxPx", 4);
        someSet("3:", "2xXx", 3);
        someSet("3:", "!#x!Xx", 7);
        someSet("3:", "#x=xx", 0);
        someSet("6:P5,P3", "@x|!PxXx", 40);
        someSet("3:", "#x#y&Xx<yx", 2);
        someSet("3:", "#x&Xx!Xx", -1);
        String kernel = "@x|&Xx!#y&XyExy&!Xx#y&XyExy";
        someSet(PATH, kernel, 5);
        someSet(RING, kernel, -1);
        refused("someSet of x", CANNOT, () -> p.someSet(a, free));
        refused("someSet where there is none", NONE, () -> p.someSet(a, closed));
        refused("someSet(1,0)", INDEX, () -> p.someSet(1, free));
        refused("someSet(0,9)", INDEX, () -> p.someSet(a, 9));
        is("X is empty again", p.ways(a, free), 0);
    }

    private static void ball(Pebblecourt p, int thing, int radius, int due) {
        is("ball(" + thing + ", " + radius + ")", p.ball(0, thing, radius), due);
    }

    private static void kind(String first, int thing, String second, int other, int radius, boolean due) {
        Pebblecourt p = new Pebblecourt();
        int a = world(p, first);
        int b = world(p, second);
        String call = "areKind of " + thing + " in " + first + ", " + other + " in " + second + ", " + radius;
        is(call, p.areKind(a, thing, b, other, radius), due);
        is(call + ", the other way", p.areKind(b, other, a, thing, radius), due);
    }

    private static void kinds(String world, int radius, int due) {
        Pebblecourt p = new Pebblecourt();
        is("kinds of " + world + ", " + radius, p.kinds(world(p, world), radius), due);
    }

    private static void balls() {
        promise = "promise 39";
        Pebblecourt p = new Pebblecourt();
        world(p, "6:01,12,F32,45");
        ball(p, 0, 0, 1);
        ball(p, 0, 1, 3);
        ball(p, 0, 2, 7);
        ball(p, 0, 3, 15);
        ball(p, 0, 6, 15);
        ball(p, 3, 1, 12);
        ball(p, 2, 1, 14);
        ball(p, 4, 6, 48);
        ball(p, 5, 1, 48);
        refused("ball(0,0,7)", RANGE, () -> p.ball(0, 0, 7));
        refused("ball(0,0,-1)", RANGE, () -> p.ball(0, 0, -1));
        refused("ball(0,6,7)", INDEX, () -> p.ball(0, 6, 7));
        refused("ball(1,0,0)", INDEX, () -> p.ball(1, 0, 0));

        promise = "promise 40";
        String path = "4:01,12,23";
        kind(path, 1, path, 2, 0, true);
        kind(path, 1, path, 2, 1, true);
        kind(path, 1, path, 2, 2, false);
        kind(path, 0, path, 3, 0, true);
        kind(path, 0, path, 3, 1, false);
        kind("3:01,02", 0, "3:01,02,12", 0, 1, false);
        kind("3:01,02", 0, "3:01,02,12", 0, 0, true);
        kind(RING, 0, RING, 2, 6, true);
        kind(SIX_RING, 0, TWO_RINGS, 0, 0, true);
        kind(SIX_RING, 0, TWO_RINGS, 0, 1, false);
        kind(SIX_RING, 0, SIX_RING, 3, 2, true);
        kind("2:01", 0, "2:F01", 0, 1, false);
        kind("2:01", 0, "2:F01", 0, 0, true);
        kind("2:P0", 0, "2:P0", 1, 0, false);
        kind("3:01,12,Q2", 0, "3:01,12", 0, 1, true);
        kind("3:01,12,Q2", 0, "3:01,12", 0, 2, false);
        refused("areKind(0,0,0,0,7)", RANGE, () -> p.areKind(0, 0, 0, 0, 7));
        refused("areKind(0,0,0,0,-1)", RANGE, () -> p.areKind(0, 0, 0, 0, -1));
        refused("areKind(0,6,0,0,7)", INDEX, () -> p.areKind(0, 6, 0, 0, 7));
        refused("areKind(0,0,0,6,7)", INDEX, () -> p.areKind(0, 0, 0, 6, 7));
        refused("areKind(1,0,0,0,0)", INDEX, () -> p.areKind(1, 0, 0, 0, 0));
        refused("areKind(0,0,1,0,0)", INDEX, () -> p.areKind(0, 0, 1, 0, 0));

        promise = "promise 41";
        kinds(path, 0, 1);
        kinds(path, 1, 3);
        kinds(path, 2, 4);
        kinds(SIX_RING, 6, 1);
        kinds("3:P0,Q1", 0, 3);
        kinds("6:01,23,P5", 1, 4);
        refused("kinds(0,7)", RANGE, () -> p.kinds(0, 7));
        refused("kinds(0,-1)", RANGE, () -> p.kinds(0, -1));
        refused("kinds(1,7)", INDEX, () -> p.kinds(1, 7));
    }

    private static void chance(String text, int one, int two, int three) {
        Pebblecourt p = new Pebblecourt();
        int f = formula(p, text);
        is("chance of " + text + ", 1", p.chance(f, 1), one);
        is("chance of " + text + ", 2", p.chance(f, 2), two);
        is("chance of " + text + ", 3", p.chance(f, 3), three);
    }

    private static void chances() {
        promise = "promise 42";
        chance("#xExx", 1, 12, 448);
        chance("@x#yExy", 1, 9, 343);
        chance("#x=xx", 2, 16, 512);
        chance("#xPx", 0, 0, 0);
        chance("#x#yFxy", 0, 0, 0);
        chance("#xXx", 0, 0, 0);
        chance("2x=xx", 0, 16, 512);
        chance("@x@y|!<xyExy", 2, 8, 64);
        chance("@x!Exx", 1, 4, 64);
        chance("@x@y|!ExyEyx", 2, 8, 64);
        Pebblecourt p = new Pebblecourt();
        int closed = formula(p, "#xExx");
        int free = formula(p, "Exx");
        refused("chance(0,0)", RANGE, () -> p.chance(closed, 0));
        refused("chance(0,4)", RANGE, () -> p.chance(closed, 4));
        refused("chance of x", CANNOT, () -> p.chance(free, 3));
        refused("chance of x, 4", RANGE, () -> p.chance(free, 4));
        refused("chance(2,4)", INDEX, () -> p.chance(2, 4));
        is("no world is added", p.worlds(), 0);
    }

    private static void maps(String first, String second, int due) {
        Pebblecourt p = new Pebblecourt();
        is("maps of " + first + " to " + second, p.maps(world(p, first), world(p, second)), due);
    }

    private static void core(String world, int due) {
        Pebblecourt p = new Pebblecourt();
        is("core of " + world, p.core(world(p, world)), due);
    }

    private static void maps() {
        promise = "promise 43";
        maps("3:", "2:", 8);
        maps("6:", "6:", 46656);
        maps(PATH, RING, 3);
        maps(RING, PATH, 0);
        maps(RING, RING, 3);
        maps("2:01,10", "3:01,10,02,20,12,21", 6);
        maps("2:P0", "3:P1,P2", 6);
        maps("2:P0,Q0", "3:P1,P2,Q2", 3);
        maps("2:F01", "2:F01,F11", 2);
        maps("2:F01", "2:01,11", 0);
        maps(SIX_RING, "1:00", 1);
        maps("1:00", SIX_RING, 0);
        maps(SIX_RING, SIX_RING, 132);
        maps("6:01,02,03,04,05", "6:00,01,02,03,04,05", 7776);
        Pebblecourt p = new Pebblecourt();
        int a = world(p, RING);
        is("maps of a world to itself", p.maps(a, a), 3);
        refused("maps(0,1)", INDEX, () -> p.maps(a, 1));
        refused("maps(1,0)", INDEX, () -> p.maps(1, a));
        refused("maps(-1,0)", INDEX, () -> p.maps(-1, a));

        promise = "promise 44";
        core("4:", 1);
        core("1:", 1);
        core(PATH, 3);
        core(SIX_RING, 2);
        core(TWO_RINGS, 3);
        core("5:01,12,23,34,40,10,21,32,43,04", 5);
        core("3:01,12,20,22", 1);
        core("2:P0,Q1", 2);
        core("2:P0", 1);
        core("6:01,12,34,45,P0", 3);
        core("4:01,F23", 4);
        core("4:01,F23,F01", 2);
        refused("core(1)", INDEX, () -> p.core(1));
        refused("core(-1)", INDEX, () -> p.core(-1));
    }

    private static void stepwise(String first, int thing, String second, int other, boolean due) {
        Pebblecourt p = new Pebblecourt();
        int a = world(p, first);
        int b = world(p, second);
        String call = "areStepwise of " + thing + " in " + first + ", " + other + " in " + second;
        is(call, p.areStepwise(a, thing, b, other), due);
        is(call + ", the other way", p.areStepwise(b, other, a, thing), due);
    }

    private static void operations(String world, int due) {
        Pebblecourt p = new Pebblecourt();
        is("operations of " + world, p.operations(world(p, world)), due);
    }

    private static void stepwiseAndOperations() {
        promise = "promise 45";
        stepwise("4:01,02,13", 0, PATH, 0, false);
        stepwise("4:01,02,13", 1, PATH, 1, true);
        stepwise("4:01,02,13", 2, PATH, 2, true);
        stepwise("1:00", 0, RING, 2, true);
        stepwise("1:00", 0, PATH, 0, false);
        stepwise("3:01,02", 0, "2:01", 0, true);
        stepwise("3:01,02,P1", 0, "2:01", 0, false);
        stepwise("3:01,02,P1", 0, "2:01,P1", 0, false);
        stepwise("3:01,02,P1,P2", 0, "2:01,P1", 0, true);
        stepwise("2:Q0", 0, "2:", 0, false);
        stepwise("2:Q0", 0, "2:P0", 0, false);
        stepwise("2:F01", 0, "1:", 0, true);
        stepwise("6:01,12,23,34,45", 0, "6:01,12,23,34,45,55", 0, false);
        Pebblecourt p = new Pebblecourt();
        int a = world(p, "2:01");
        is("in one world", p.areStepwise(a, 0, a, 1), false);
        refused("areStepwise(0,2,0,0)", INDEX, () -> p.areStepwise(a, 2, a, 0));
        refused("areStepwise(0,0,0,-1)", INDEX, () -> p.areStepwise(a, 0, a, -1));
        refused("areStepwise(1,0,0,0)", INDEX, () -> p.areStepwise(1, 0, a, 0));
        refused("areStepwise(0,0,1,0)", INDEX, () -> p.areStepwise(a, 0, 1, 0));

        promise = "promise 46";
        operations("2:", 16);
        operations("3:", 19683);
        operations("2:01,10", 4);
        operations("2:01", 4);
        operations("2:F01", 4);
        operations("2:P0", 8);
        operations("2:P0,Q1", 4);
        operations("2:P0,Q0", 8);
        operations("1:00,F00,P0", 1);
        operations("2:00,01,11", 6);
        world(p, "4:");
        refused("operations of 4", CANNOT, () -> p.operations(1));
        refused("operations(2)", INDEX, () -> p.operations(2));
        refused("operations(-1)", INDEX, () -> p.operations(-1));
        is("no world is added", p.worlds(), 2);
    }

    private static void wholeCourt() {
        promise = "promise 47";
        Pebblecourt p = new Pebblecourt();
        int closed = formula(p, "#xPx");
        int free = formula(p, "Px");
        is("worlds()", p.worlds(), 0);

        promise = "promise 48";
        refused("truth without worlds", DIVIDE, () -> p.truth(closed));
        refused("truth of x without worlds", CANNOT, () -> p.truth(free));
        refused("truth(2) without worlds", INDEX, () -> p.truth(2));
        promise = "promise 49";
        refused("meanSize without worlds", DIVIDE, () -> p.meanSize());
        promise = "promise 50";
        is("isSound without worlds", p.isSound(), true);

        world(p, "1:");
        promise = "promise 48";
        is("truth of none", p.truth(closed), 0f);
        world(p, "2:P1");
        world(p, "2:P0");
        is("truth of two of three", p.truth(closed), 2f / 3f);
        is("truth by the order", p.truth(formula(p, "#x#y&<xyPx")), 1f / 3f);
        is("truth of all", p.truth(formula(p, "!#xXx")), 1f);
        refused("truth of x", CANNOT, () -> p.truth(free));
        refused("truth(-1)", INDEX, () -> p.truth(-1));
        promise = "promise 49";
        is("meanSize", p.meanSize(), 5.0 / 3.0);
        promise = "promise 47";
        is("worlds()", p.worlds(), 3);
        p.turned(0);
        is("worlds()", p.worlds(), 4);
        promise = "promise 49";
        is("meanSize", p.meanSize(), 1.5);

        promise = "promise 50";
        for (int a = 0; a < 4; a++) {
            for (int b = 0; b < 4; b++) {
                p.position(a, b);
                is("isSound", p.isSound(), true);
                p.pair(0, 0);
                is("isSound with a pair", p.isSound(), true);
            }
        }
        typeAll(p, "Px");
        is("isSound", p.isSound(), true);
        is("the buffer stays", p.erase(), 2);
        is("the position stays", p.position(0, 0), 1);
    }

    // What is refused must leave everything as it was.
    private static void nothingChanges() {
        promise = "exceptions";
        Pebblecourt p = new Pebblecourt();
        int a = world(p, "3:01,12,F20,P1,Q2");
        int f = formula(p, "Exy");
        typeAll(p, "#x");
        p.let(0, 2);
        p.position(a, a);
        p.pair(0, 0);
        refused("world", RANGE, () -> p.world(7));
        refused("stepped", INDEX, () -> p.stepped(a, 0, 3));
        refused("threaded", INDEX, () -> p.threaded(a, 3, 0));
        refused("marked", RANGE, () -> p.marked(a, 0, 'X'));
        refused("join", CANNOT, () -> p.join(a, a, true));
        refused("part", RANGE, () -> p.part(a, 8));
        refused("formula", CANNOT, () -> p.formula());
        refused("type", RANGE, () -> p.type('7'));
        refused("let", RANGE, () -> p.let(0, 6));
        refused("position", INDEX, () -> p.position(a, 1));
        refused("pair", INDEX, () -> p.pair(0, 3));
        refused("orders", CANNOT, () -> p.orders(a, f));
        is("worlds()", p.worlds(), 1);
        is("world", told(p, a), "3:01,12,F20,P1,Q2");
        is("fault()", p.fault(), 2);
        is("let", p.let(0, 0), 2);
        is("position", p.position(a, a), 1);
        is("free", p.free(f), 3);
        refused("free(1)", INDEX, () -> p.free(1));
    }
}
