/** Tries each row of README.md: its example, what an object holds, the order of calls, what a call that throws leaves. */
public final class PebblecourtReadme {
    private static int wrong = 0;

    private interface Call {
        Object run();
    }

    private static void is(String row, Object got, Object due) {
        if (!got.equals(due)) {
            wrong++;
            System.out.println(row + ": answered " + got + ", due is " + due);
        }
    }

    private static void refused(String row, Class<?> due, Call call) {
        Object got;
        try {
            got = call.run();
        } catch (RuntimeException e) {
            got = e.getClass();
        }
        is(row, got, due);
    }

    private static int say(Pebblecourt court, String text) {
        for (char sign : text.toCharArray()) {
            court.type(sign);
        }
        return court.formula();
    }

    private static void example() {
        Pebblecourt court = new Pebblecourt();
        int path = court.world(3);
        court.stepped(path, 0, 1);
        court.stepped(path, 1, 2);
        int ring = court.world(3);
        court.stepped(ring, 0, 1);
        court.stepped(ring, 1, 2);
        court.stepped(ring, 2, 0);
        int all = say(court, "@x#yExy");
        is("a step leads somewhere, in the path", court.holds(path, all), false);
        is("a step leads somewhere, in the ring", court.holds(ring, all), true);
        court.position(path, ring);
        is("one round", court.answers(1), true);
        is("two rounds", court.answers(2), false);
        is("signs that tell them apart", court.telling(2), 52);
    }

    private static void whatIsHeld() {
        Pebblecourt court = new Pebblecourt();
        for (int number = 0; number < 12; number++) {
            is("worlds are numbered from 0", court.world(1 + number % 6), number);
        }
        refused("a 13th world", IllegalStateException.class, () -> court.world(1));
        for (int number = 0; number < 20; number++) {
            is("formulas are numbered from 0", say(court, "Px"), number);
        }
        for (int count = 1; count <= 40; count++) {
            is("signs are counted", court.type('!'), count);
        }
        refused("a 41st sign", IllegalStateException.class, () -> court.type('!'));
        court.erase();
        refused("a 21st formula", IllegalStateException.class, () -> say(court, "Px"));
        for (int name = 0; name < 6; name++) {
            is("names are let be 0 at first", court.let(name, 1), 0);
        }
        refused("no position at first", java.util.NoSuchElementException.class, () -> court.pair(0, 0));
        court.position(5, 5);
        for (int count = 1; count <= 6; count++) {
            is("pairs are counted", court.pair(0, 0), count);
        }
        refused("a 7th pair", IllegalStateException.class, () -> court.pair(0, 0));
    }

    private static void whatChangesWithWhat() {
        Pebblecourt court = new Pebblecourt();
        int one = court.world(2);
        int step = say(court, "Exy");
        int[] others = {court.join(one, one, false), court.join(one, court.world(1), true),
            court.turned(one), court.part(one, 3), court.made(one, step)};
        int[] steps = {0, 0, 4, 0, 0};
        court.position(one, others[3]);
        court.pair(0, 0);
        is("alike at first", court.isAlike(), true);
        is("added", court.stepped(one, 0, 0), true);
        is("threads are added", court.threaded(one, 0, 1), true);
        is("marks are added", court.marked(one, 1, 'Q'), true);
        for (int i = 0; i < others.length; i++) {
            is("what was made of it does not change", court.many(others[i], 'E'), steps[i]);
            is("nor its threads", court.many(others[i], 'F'), 0);
            is("nor its marks", court.many(others[i], 'Q'), 0);
        }
        is("the position changes", court.isAlike(), false);
        is("taken away", court.stepped(one, 0, 0), false);
        is("threads are taken away", court.threaded(one, 0, 1), false);
        is("marks are taken away", court.marked(one, 1, 'Q'), false);
        is("the position changes back", court.isAlike(), true);
    }

    private static void theOrderOfCalls() {
        Pebblecourt court = new Pebblecourt();
        refused("no world yet", IndexOutOfBoundsException.class, () -> court.size(0));
        int one = court.world(2);
        court.marked(one, 1, 'P');
        refused("ended too early", UnsupportedOperationException.class, () -> say(court, "&Px"));
        is("its place is told", court.fault(), 3);
        is("and its signs stay", court.erase(), 3);
        is("a formula empties the buffer", say(court, "Px") + court.erase(), 0);
        is("let be 0", court.holds(one, 0), false);
        court.let(0, 1);
        is("let be 1", court.holds(one, 0), true);
        is("ways look at no name that is let be", court.ways(one, 0), 1);
        court.let(0, 5);
        is("made looks at none", court.many(court.made(one, 0), 'E'), 2);
        is("a fixed point looks at none", court.fixed(one, 0, 0, 'l'), 2);
        court.position(one, one);
        court.pair(0, 0);
        is("one pair", court.position(one, one), 1);
        is("begun anew, none", court.position(one, one), 0);
    }

    private static void whatAThrowLeaves() {
        Pebblecourt court = new Pebblecourt();
        court.world(2);
        court.world(3);
        court.position(0, 1);
        refused("rounds ahead of the index", IllegalArgumentException.class, () -> court.tellingAt(4, -1));
        refused("the formula ahead of the index", UnsupportedOperationException.class, () -> court.tellingAt(0, -1));
        refused("the index last", java.util.NoSuchElementException.class, () -> court.tellingAt(3, -1));
        refused("the world ahead of the mark", IndexOutOfBoundsException.class, () -> court.marked(2, 0, 'R'));
        is("the position is as it was", court.position(1, 0), 0);
        is("the worlds are as they were", court.worlds(), 2);
    }

    public static void main(String[] args) {
        example();
        whatIsHeld();
        whatChangesWithWhat();
        theOrderOfCalls();
        whatAThrowLeaves();
        if (wrong > 0) {
            System.exit(1);
        }
        System.out.println("PebblecourtReadme: each row is true");
    }
}
