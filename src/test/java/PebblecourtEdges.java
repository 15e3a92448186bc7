import java.lang.reflect.InvocationTargetException;
import java.lang.reflect.Method;
import java.util.ArrayList;
import java.util.HashMap;
import java.util.List;
import java.util.Map;

/**
 * The boundary cases that the document names, each with rows of calls on a new object: "call arguments -> due".
 * What is due is an answer, or the beginning of an exception's name. A call that is refused is tried again
 * on twins of the object, which must then answer all else as the twins that it was not tried on.
 *
 * In a row, ?0..5 stands for each of -1, 6, the least and the greatest int; ?[PQ] for each of many
 * characters but these; 12* ahead for twelve times the row; #65 for the character of that number.
 * Rows that are no calls of the face: draw 3:01,F12,P1 (adds a world), text (types signs), say (types a text
 * and adds it as a formula), told (a world as in draw), tells (the signs of the telling formula), all (a call
 * for each two of six things).
 */
public final class PebblecourtEdges {
    private static final int MOST_CALLS = 512;
    private static final int ACCOUNTS = 7;
    private static final Map<String, Method> FACE = new HashMap<>();
    private static int wrong = 0;
    private static int refusals = 0;

    private static final String INDEX = "IndexOutOfBounds";
    private static final String RANGE = "IllegalArgument";
    private static final String STATE = "IllegalState";
    private static final String CANNOT = "UnsupportedOperation";
    private static final String NONE = "NoSuchElement";
    private static final String DIVIDE = "Arithmetic";

    private static final String FIVE_THINGS = "5:04,F13,14,F14,F23,24,F24,30,31,F31,34,F34,F41,F42,F43";
    private static final String SIX_THINGS = "6:04,12,23,31,34,45,50";
    private static final String ALL_OF_FOUR = "01,02,03,10,12,13,20,21,23,30,31,32";
    private static final String ALL_BEYOND = ",04,05,14,15,24,25,34,35,40,41,42,43,45,50,51,52,53,54";

    // ---- how rows are run

    /** An object with the count of the calls that it has had. */
    private static final class Court {
        final Pebblecourt court = new Pebblecourt();
        int calls = 0;

        String ask(String call) {
            String[] words = call.split(" ");
            if (words[0].equals("draw")) {
                return draw(words[1]);
            }
            if (words[0].equals("text")) {
                return text(words[1]);
            }
            if (words[0].equals("say")) {
                text(words[1]);
                return ask("formula");
            }
            if (words[0].equals("told")) {
                return told(words[1]);
            }
            if (words[0].equals("tells")) {
                return tells(words[1]);
            }
            if (words[0].equals("all")) {
                return all(words[1] + " " + words[2]);
            }
            return faced(words);
        }

        String faced(String[] words) {
            calls++;
            Method method = FACE.get(words[0]);
            Class<?>[] kinds = method.getParameterTypes();
            Object[] values = new Object[kinds.length];
            for (int i = 0; i < kinds.length; i++) {
                values[i] = value(kinds[i], words[i + 1]);
            }
            try {
                return String.valueOf(method.invoke(court, values));
            } catch (InvocationTargetException e) {
                return e.getCause().getClass().getSimpleName();
            } catch (IllegalAccessException e) {
                return e.toString();
            }
        }

        static Object value(Class<?> kind, String word) {
            if (kind == boolean.class) {
                return Boolean.valueOf(word);
            }
            if (kind == char.class) {
                return word.length() == 1 ? word.charAt(0) : (char) Integer.parseInt(word.substring(1));
            }
            return Integer.valueOf(word);
        }

        String draw(String told) {
            String world = ask("world " + told.charAt(0));
            for (String part : told.substring(2).split(",")) {
                if (part.isEmpty()) {
                    continue;
                }
                char kind = part.charAt(0);
                char last = part.charAt(part.length() - 1);
                if (kind == 'P' || kind == 'Q') {
                    ask("marked " + world + " " + last + " " + kind);
                } else {
                    char from = part.charAt(part.length() - 2);
                    ask((kind == 'F' ? "threaded " : "stepped ") + world + " " + from + " " + last);
                }
            }
            return world;
        }

        String text(String signs) {
            String count = "";
            for (int i = 0; i < signs.length(); i++) {
                count = ask("type " + signs.charAt(i));
            }
            return count;
        }

        // Twice added or taken away is as it was before.
        String told(String world) {
            String size = ask("size " + world);
            if (size.length() > 1) {
                return size;
            }
            List<String> parts = new ArrayList<>();
            for (String relation : new String[] {"stepped ", "threaded "}) {
                for (int from = 0; from < size.charAt(0) - '0'; from++) {
                    for (int to = 0; to < size.charAt(0) - '0'; to++) {
                        ask(relation + world + " " + from + " " + to);
                        if (ask(relation + world + " " + from + " " + to).equals("true")) {
                            parts.add((relation.startsWith("t") ? "F" : "") + from + to);
                        }
                    }
                }
            }
            for (String mark : new String[] {"P", "Q"}) {
                for (int thing = 0; thing < size.charAt(0) - '0'; thing++) {
                    ask("marked " + world + " " + thing + " " + mark);
                    if (ask("marked " + world + " " + thing + " " + mark).equals("true")) {
                        parts.add(mark + thing);
                    }
                }
            }
            return size + ":" + String.join(",", parts);
        }

        // Both ways between each two of six things: what all calls answer.
        String all(String call) {
            String answer = "";
            for (int from = 0; from < 6; from++) {
                for (int to = 0; to < 6; to++) {
                    String got = ask(call + " " + from + " " + to);
                    answer = answer.isEmpty() || answer.equals(got) ? got : "unlike";
                }
            }
            return answer;
        }

        String tells(String rounds) {
            String length = ask("telling " + rounds);
            if (!Character.isDigit(length.charAt(0))) {
                return length;
            }
            StringBuilder text = new StringBuilder();
            for (int i = 0; i < Integer.parseInt(length); i++) {
                text.append(ask("tellingAt " + rounds + " " + i));
            }
            return text.toString();
        }
    }

    private static void edge(String sentence, String... rows) {
        Court court = new Court();
        List<String> kept = new ArrayList<>();
        String[] accounts = null;
        for (String row : spread(rows)) {
            int arrow = row.lastIndexOf(" -> ");
            String call = arrow < 0 ? row : row.substring(0, arrow);
            String due = arrow < 0 ? null : row.substring(arrow + 4);
            String got = court.ask(call);
            boolean isRefused = got.endsWith("Exception") || got.endsWith("Error");
            if (due == null ? isRefused : !got.equals(due) && !got.equals(due + "Exception")) {
                wrong++;
                System.out.println(sentence + ": " + call + " answered " + got + (due == null ? "" : ", due is " + due));
            }
            if (isRefused) {
                accounts = accounts == null ? accounts(kept, null) : accounts;
                compare(sentence, call, accounts, accounts(kept, call));
                refusals++;
            } else {
                kept.add(call);
                accounts = null;
            }
        }
        if (court.calls > MOST_CALLS) {
            wrong++;
            System.out.println(sentence + ": the test itself makes " + court.calls + " calls");
        }
    }

    private static List<String> spread(String[] rows) {
        List<String> all = new ArrayList<>();
        for (String row : rows) {
            int star = row.indexOf("* ");
            boolean isTimes = star > 0 && Character.isDigit(row.charAt(star - 1)) && star <= 3;
            String once = isTimes ? row.substring(star + 2) : row;
            int times = isTimes ? Integer.parseInt(row.substring(0, star)) : 1;
            for (int i = 0; i < times; i++) {
                spreadOne(once, all);
            }
        }
        return all;
    }

    private static void spreadOne(String row, List<String> all) {
        int mark = row.indexOf("?");
        if (mark < 0) {
            all.add(row);
            return;
        }
        int end = row.indexOf(' ', mark);
        String word = row.substring(mark + 1, end);
        List<String> values = new ArrayList<>();
        if (word.startsWith("[")) {
            for (int sign = 0; sign < 128; sign++) {
                values.add("#" + sign);
            }
            values.add("#" + 255);
            values.add("#" + (256 + word.charAt(1)));
            values.add("#" + 65535);
            for (int i = 1; i < word.length() - 1; i++) {
                values.remove("#" + (int) word.charAt(i));
            }
        } else {
            int dots = word.indexOf("..");
            values.add(String.valueOf(Integer.parseInt(word.substring(0, dots)) - 1));
            values.add(String.valueOf(Integer.parseInt(word.substring(dots + 2)) + 1));
            values.add(String.valueOf(Integer.MIN_VALUE));
            values.add(String.valueOf(Integer.MAX_VALUE));
        }
        for (String value : values) {
            all.add(row.substring(0, mark) + value + row.substring(end));
        }
    }

    private static void compare(String sentence, String call, String[] before, String[] after) {
        for (int i = 0; i < before.length; i++) {
            if (!before[i].equals(after[i])) {
                wrong++;
                System.out.println(sentence + ": " + call + " changed something, account " + i + "\n  "
                        + before[i] + "\n  " + after[i]);
            }
        }
    }

    // All that can be asked, in several accounts on objects of their own, as none has more than 512 calls.
    private static String[] accounts(List<String> kept, String refused) {
        String[] accounts = new String[ACCOUNTS];
        for (int i = 0; i < ACCOUNTS; i++) {
            Court court = new Court();
            for (String call : kept) {
                court.ask(call);
            }
            if (refused != null) {
                court.ask(refused);
            }
            StringBuilder text = new StringBuilder();
            account(court, i, text);
            accounts[i] = text.toString();
            if (court.calls > MOST_CALLS) {
                wrong++;
                System.out.println("account " + i + " after " + kept.size() + " rows makes " + court.calls + " calls");
            }
        }
        return accounts;
    }

    private static void account(Court court, int number, StringBuilder text) {
        if (number == 0) {
            accountOfWorlds(court, text);
        } else if (number <= 3) {
            int worlds = Integer.parseInt(court.ask("worlds"));
            note(court, text, "told " + (number == 3 ? worlds - 1 : number - 1));
        } else if (number == 4) {
            accountOfFormulas(court, text);
        } else if (number == 5) {
            accountOfBuffer(court, text);
        } else {
            accountOfPosition(court, text);
        }
    }

    private static void note(Court court, StringBuilder text, String call) {
        text.append(call).append(' ').append(court.ask(call)).append("; ");
    }

    private static void accountOfWorlds(Court court, StringBuilder text) {
        note(court, text, "worlds");
        note(court, text, "meanSize");
        note(court, text, "isSound");
        for (int world = 0; world <= 12; world++) {
            note(court, text, "size " + world);
            for (char what : "EFPQ".toCharArray()) {
                note(court, text, "many " + world + " " + what);
            }
        }
    }

    private static void accountOfFormulas(Court court, StringBuilder text) {
        for (int formula = 0; formula <= 20; formula++) {
            for (String call : new String[] {"free ", "rank ", "width ", "truth ", "holds 0 ", "ways 0 "}) {
                note(court, text, call + formula);
            }
        }
    }

    private static void accountOfBuffer(Court court, StringBuilder text) {
        for (int name = 0; name < 6; name++) {
            note(court, text, "let " + name + " 0");
        }
        note(court, text, "fault");
        String added = court.ask("formula");
        if (added.endsWith("Exception")) {
            note(court, text, "type E");
            note(court, text, "text xy");
            added = court.ask("formula");
        }
        text.append(added);
        if (!added.endsWith("Exception")) {
            for (String call : new String[] {"free ", "rank ", "width ", "ways 0 "}) {
                note(court, text, call + added);
            }
        }
        note(court, text, "erase");
    }

    private static void accountOfPosition(Court court, StringBuilder text) {
        note(court, text, "isAlike");
        for (int rounds = 0; rounds <= 3; rounds++) {
            note(court, text, "answers " + rounds);
            note(court, text, "telling " + rounds);
            for (int i = 0; i < 12; i++) {
                note(court, text, "tellingAt " + rounds + " " + i);
            }
            for (int thing = 0; thing < 6 && rounds < 3; thing++) {
                note(court, text, "answer true " + thing + " " + rounds);
                note(court, text, "answer false " + thing + " " + rounds);
            }
        }
        note(court, text, "pair 0 0");
        note(court, text, "isAlike");
        note(court, text, "position 0 0");
    }

    public static void main(String[] args) {
        for (Method method : Pebblecourt.class.getDeclaredMethods()) {
            if (java.lang.reflect.Modifier.isPublic(method.getModifiers())) {
                FACE.put(method.getName(), method);
            }
        }
        newObject();
        worlds();
        newWorlds();
        fullCourt();
        asked();
        buffer();
        formulas();
        saying();
        positions();
        rounds();
        pebblesAndTypes();
        tellings();
        colours();
        fixedPoints();
        ordersAndSets();
        nearAndFar();
        maps();
        wholeCourt();
        whatIsThereWhereNothingIsTold();
        if (wrong > 0) {
            System.exit(1);
        }
        System.out.println("PebblecourtEdges: all answers are as due, " + refusals + " refused calls changed nothing");
    }

    // ---- the boundary cases, promise by promise

    private static void newObject() {
        edge("promise 1: a court without worlds and formulas", "worlds -> 0",
                "stepped 0 0 0 -> " + INDEX, "threaded 0 0 0 -> " + INDEX, "marked 0 0 P -> " + INDEX,
                "join 0 0 false -> " + INDEX, "join 0 0 true -> " + INDEX, "turned 0 -> " + INDEX,
                "part 0 1 -> " + INDEX, "made 0 0 -> " + INDEX, "size 0 -> " + INDEX, "many 0 E -> " + INDEX,
                "free 0 -> " + INDEX, "rank 0 -> " + INDEX, "width 0 -> " + INDEX, "holds 0 0 -> " + INDEX,
                "ways 0 0 -> " + INDEX, "position 0 0 -> " + INDEX, "pebbles 0 0 1 false -> " + INDEX,
                "types 0 0 -> " + INDEX, "apart 0 0 -> " + INDEX, "colours 0 true -> " + INDEX,
                "areAlike 0 0 false -> " + INDEX, "fixed 0 0 0 l -> " + INDEX, "stages 0 0 0 l -> " + INDEX,
                "reaches 0 0 -> " + INDEX, "orders 0 0 -> " + INDEX, "someSet 0 0 -> " + INDEX,
                "ball 0 0 0 -> " + INDEX, "areKind 0 0 0 0 0 -> " + INDEX, "kinds 0 0 -> " + INDEX,
                "chance 0 1 -> " + INDEX, "maps 0 0 -> " + INDEX, "core 0 -> " + INDEX,
                "areStepwise 0 0 0 0 -> " + INDEX, "operations 0 -> " + INDEX, "truth 0 -> " + INDEX);
        edge("promise 1: an empty buffer, nothing let be, no position",
                "fault -> 0", "erase -> 0", "formula -> " + CANNOT, "let 0 0 -> 0", "let 1 0 -> 0", "let 2 0 -> 0",
                "let 3 0 -> 0", "let 4 0 -> 0", "let 5 0 -> 0", "pair 0 0 -> " + NONE, "isAlike -> " + NONE,
                "answers 0 -> " + NONE, "answer true 0 0 -> " + NONE, "telling 0 -> " + NONE,
                "tellingAt 0 0 -> " + NONE, "meanSize -> " + DIVIDE, "isSound -> true");
        edge("promise 1: worlds without formulas", "world 1 -> 0", "made 0 0 -> " + INDEX, "holds 0 0 -> " + INDEX,
                "ways 0 0 -> " + INDEX, "fixed 0 0 0 w -> " + INDEX, "stages 0 0 0 w -> " + INDEX,
                "orders 0 0 -> " + INDEX, "someSet 0 0 -> " + INDEX, "chance 0 1 -> " + INDEX, "truth 0 -> " + INDEX);
        edge("promise 1: formulas without worlds", "say Px -> 0", "made 0 0 -> " + INDEX, "holds 0 0 -> " + INDEX,
                "ways 0 0 -> " + INDEX, "fixed 0 0 0 w -> " + INDEX, "stages 0 0 0 w -> " + INDEX,
                "orders 0 0 -> " + INDEX, "someSet 0 0 -> " + INDEX, "truth 0 -> " + CANNOT);
    }

    private static void worlds() {
        edge("promise 2: size, 1 to 6", "world ?1..6 -> " + RANGE, "worlds -> 0", "world 1 -> 0", "size 0 -> 1",
                "world 6 -> 1", "size 1 -> 6", "world ?1..6 -> " + RANGE, "worlds -> 2");
        edge("promise 2: without steps, threads and marks", "world 1 -> 0", "world 6 -> 1", "told 0 -> 1:",
                "told 1 -> 6:");
        edge("promise 2: if there are 12", "11* world 2", "worlds -> 11", "world 6 -> 11", "world 6 -> " + STATE,
                "world 1 -> " + STATE, "worlds -> 12", "size 11 -> 6", "size 12 -> " + INDEX);
        edge("promise 2: the exception listed first", "12* world 2", "world ?1..6 -> " + RANGE);
        for (String call : new String[] {"stepped", "threaded"}) {
            String many = call.equals("stepped") ? "E" : "F";
            String other = call.equals("stepped") ? "F" : "E";
            String promise = call.equals("stepped") ? "promise 3" : "promise 4";
            edge(promise + ": if there is no such world", "world 2", "world 6", call + " ?0..1 0 0 -> " + INDEX,
                    call + " 0 0 0 -> true", call + " 1 0 0 -> true", "many 0 " + many + " -> 1",
                    "many 1 " + many + " -> 1");
            edge(promise + ": if there is no such thing, in the least world", "world 1", "world 6",
                    call + " 0 ?0..0 0 -> " + INDEX, call + " 0 0 ?0..0 -> " + INDEX, call + " 0 0 0 -> true",
                    call + " 0 1 1 -> " + INDEX, call + " 0 0 0 -> false", "many 0 " + many + " -> 0");
            edge(promise + ": if there is no such thing, in the greatest world", "world 1", "world 6",
                    call + " 1 ?0..5 0 -> " + INDEX, call + " 1 0 ?0..5 -> " + INDEX, call + " 1 5 5 -> true",
                    call + " 1 0 5 -> true", call + " 1 5 0 -> true", call + " 1 0 0 -> true",
                    "many 1 " + many + " -> 4", "many 1 " + other + " -> 0", "many 0 " + many + " -> 0");
            edge(promise + ": adds it, or takes it away, each of all", "world 6", "all " + call + " 0 -> true",
                    "many 0 " + many + " -> 36", "all " + call + " 0 -> false", "many 0 " + many + " -> 0");
        }
        edge("promise 5: if there is no such world, or thing", "world 1", "world 6", "marked ?0..1 0 P -> " + INDEX,
                "marked 0 ?0..0 Q -> " + INDEX, "marked 1 ?0..5 P -> " + INDEX, "marked 0 0 P -> true",
                "marked 1 5 Q -> true", "marked 1 5 P -> true", "marked 1 5 Q -> false", "told 0 -> 1:P0",
                "told 1 -> 6:P5");
        edge("promise 5: if there is no such mark", "world 1", "marked 0 0 ?[PQ] -> " + RANGE, "told 0 -> 1:");
        edge("promise 5: the exception listed first", "world 1", "marked 1 0 E -> " + INDEX,
                "marked 0 1 E -> " + INDEX, "marked -1 -1 #0 -> " + INDEX);
        edge("promise 5: each of all", "world 6", "marked 0 0 P -> true", "marked 0 1 P -> true",
                "marked 0 2 P -> true", "marked 0 3 P -> true", "marked 0 4 P -> true", "marked 0 5 P -> true",
                "many 0 P -> 6", "many 0 Q -> 0", "marked 0 3 Q -> true", "marked 0 3 P -> false", "many 0 P -> 5",
                "many 0 Q -> 1");
        edge("promise 10: if there is no such world", "size ?0..-1 -> " + INDEX, "world 1", "world 6",
                "size ?0..1 -> " + INDEX, "size 0 -> 1", "size 1 -> 6");
        edge("promise 11: if there is no such world", "many ?0..-1 E -> " + INDEX, "draw 2:01,F10,F11,P0,Q0,Q1",
                "many ?0..0 F -> " + INDEX, "many 0 E -> 1", "many 0 F -> 2", "many 0 P -> 1", "many 0 Q -> 2");
        edge("promise 11: if there is no such letter", "draw 1:00,F00,P0,Q0", "many 0 ?[EFPQ] -> " + RANGE);
        edge("promise 11: the exception listed first", "world 1", "many 1 X -> " + INDEX, "many -1 e -> " + INDEX);
    }

    private static void newWorlds() {
        edge("promise 6: if there is no such world, for either", "world 1", "world 2",
                "join ?0..1 0 false -> " + INDEX, "join 0 ?0..1 false -> " + INDEX, "join ?0..1 1 true -> " + INDEX,
                "join 1 ?0..1 true -> " + INDEX, "join 2 2 true -> " + INDEX, "join 0 1 false -> 2",
                "join 1 0 true -> 3", "join 1 1 true -> 4", "size 2 -> 3", "size 3 -> 2", "size 4 -> 4");
        edge("promise 6: a sum of more than 6 things", "draw 1:00", "draw 6:05,F50,P5", "draw 3:02", "draw 4:30",
                "join 0 1 false -> " + CANNOT, "join 1 0 false -> " + CANNOT, "join 2 3 false -> " + CANNOT,
                "join 3 2 false -> " + CANNOT, "join 1 1 false -> " + CANNOT, "join 2 2 false -> 4",
                "told 4 -> 6:02,35", "join 0 0 false -> 5", "told 5 -> 2:00,11");
        edge("promise 6: a sum of five and one", "draw 1:00,Q0", "draw 5:04,P4", "join 0 1 false -> 2",
                "told 2 -> 6:00,15,P5,Q0", "join 1 0 false -> 3", "told 3 -> 6:04,55,P4,Q5");
        edge("promise 6: a product of more than 6 things", "draw 1:00,P0", "draw 6:05,50,P5", "draw 2:01",
                "draw 3:02", "draw 4:", "join 2 4 true -> " + CANNOT, "join 4 2 true -> " + CANNOT,
                "join 3 3 true -> " + CANNOT, "join 1 2 true -> " + CANNOT, "join 1 1 true -> " + CANNOT,
                "join 2 3 true -> 5", "told 5 -> 6:05", "join 3 2 true -> 6", "told 6 -> 6:05");
        edge("promise 6: a product of 6 and 1, that is no sum", "draw 1:00,P0", "draw 6:05,50,P5,Q0",
                "join 0 1 false -> " + CANNOT, "join 0 1 true -> 2", "told 2 -> 6:05,50,P5", "join 1 0 true -> 3",
                "told 3 -> 6:05,50,P5");
        edge("promise 6: a product of 1 and 1", "draw 1:00,P0", "draw 1:00,F00,P0,Q0", "join 0 1 true -> 2",
                "told 2 -> 1:00,P0", "join 1 1 true -> 3", "told 3 -> 1:00,F00,P0,Q0");
        edge("promise 7: if there is no such world", "turned ?0..-1 -> " + INDEX, "draw 1:", "draw 1:00,F00,Q0",
                "turned ?0..1 -> " + INDEX, "turned 0 -> 2", "told 2 -> 1:00", "turned 1 -> 3",
                "told 3 -> 1:F00,Q0");
        edge("promise 7: of 6 things, none and all", "world 6", "turned 0 -> 1", "many 1 E -> 36", "turned 1 -> 2",
                "many 2 E -> 0", "told 0 -> 6:");
        edge("promise 8: if there is no such world", "part ?0..-1 1 -> " + INDEX, "world 1", "world 6",
                "part ?0..1 1 -> " + INDEX, "worlds -> 2");
        edge("promise 8: no such set, or empty, of 1", "draw 1:00,P0", "part 0 ?1..1 -> " + RANGE,
                "part 0 1 -> 1", "told 1 -> 1:00,P0");
        edge("promise 8: no such set, or empty, of 3", "draw 3:02,20,F12,Q1", "part 0 ?1..7 -> " + RANGE,
                "part 0 1 -> 1", "told 1 -> 1:", "part 0 7 -> 2", "told 2 -> 3:02,20,F12,Q1", "part 0 4 -> 3",
                "told 3 -> 1:", "part 0 5 -> 4", "told 4 -> 2:01,10", "part 0 6 -> 5", "told 5 -> 2:F01,Q0");
        edge("promise 8: no such set, or empty, of 6", "draw 6:05,50,33,F25,P3,Q5", "part 0 ?1..63 -> " + RANGE,
                "part 0 65 -> " + RANGE, "part 0 128 -> " + RANGE, "part 0 32 -> 1", "told 1 -> 1:Q0",
                "part 0 63 -> 2", "told 2 -> 6:05,33,50,F25,P3,Q5", "part 0 8 -> 3", "told 3 -> 1:00,P0");
        edge("promise 8: the exception listed first", "world 1", "part 1 0 -> " + INDEX, "part -1 2 -> " + INDEX);
        edge("promise 9: if there is no such world or formula", "draw 2:01", "say Eyx", "say Exy",
                "made ?0..0 0 -> " + INDEX, "made 0 ?0..1 -> " + INDEX, "made 0 0 -> 1", "told 1 -> 2:10",
                "made 0 1 -> 2", "told 2 -> 2:01", "made ?0..2 2 -> " + INDEX);
        edge("promise 9: if other names than x and y are free in it", "draw 2:01", "say Pz", "say Pu", "say Pv",
                "say Pw", "say &ExyEyz", "say &#zPzPz", "say #xExz", "made 0 0 -> " + CANNOT,
                "made 0 1 -> " + CANNOT, "made 0 2 -> " + CANNOT, "made 0 3 -> " + CANNOT, "made 0 4 -> " + CANNOT,
                "made 0 5 -> " + CANNOT, "made 0 6 -> " + CANNOT, "made 1 0 -> " + INDEX, "worlds -> 1");
        edge("promise 9: x, y, both or neither are free in it", "draw 2:01,F10,P1,Q0", "say Px", "say Qy", "say =xy",
                "say #xPx", "say #u#v#w#z&EuvFvu", "say #x#yEyy", "made 0 0 -> 1", "told 1 -> 2:10,11,P1,Q0",
                "made 0 1 -> 2", "told 2 -> 2:00,10,P1,Q0", "made 0 2 -> 3", "told 3 -> 2:00,11,P1,Q0", "made 0 3 -> 4",
                "told 4 -> 2:00,01,10,11,P1,Q0", "made 0 4 -> 5", "told 5 -> 2:00,01,10,11,P1,Q0", "made 0 5 -> 6",
                "told 6 -> 2:P1,Q0", "told 0 -> 2:01,F10,P1,Q0");
        edge("promise 9: of 1 thing, and of 6 things", "world 1", "world 6", "say =xy", "say <yx", "made 0 0 -> 2",
                "told 2 -> 1:00", "made 1 1 -> 3", "many 3 E -> 15", "made 0 1 -> 4", "many 4 E -> 0");
    }

    private static void fullCourt() {
        edge("promises 6 to 9: if there are 12", "draw 2:01", "10* world 1", "say Exy", "worlds -> 11",
                "join 1 1 false -> 11", "join 1 1 false -> " + STATE, "join 0 1 true -> " + STATE,
                "turned 0 -> " + STATE, "part 0 3 -> " + STATE, "made 0 0 -> " + STATE, "world 1 -> " + STATE,
                "worlds -> 12", "size 11 -> 2");
        edge("promise 6: a product as the twelfth", "11* world 2", "join 0 1 true -> 11", "size 11 -> 4",
                "join 0 1 true -> " + STATE);
        edge("promise 7: the twelfth", "11* world 2", "turned 10 -> 11", "many 11 E -> 4", "turned 11 -> " + STATE);
        edge("promise 8: the twelfth", "11* world 2", "part 10 2 -> 11", "size 11 -> 1", "part 10 2 -> " + STATE);
        edge("promise 9: the twelfth", "11* world 2", "say =xy", "made 10 0 -> 11", "many 11 E -> 2",
                "made 10 0 -> " + STATE);
        edge("promise 6: the exception listed first", "12* world 6", "join 12 0 true -> " + INDEX,
                "join 0 -1 false -> " + INDEX, "join 0 0 true -> " + CANNOT, "join 0 0 false -> " + CANNOT);
        edge("promise 7: the exception listed first", "12* world 6", "turned 12 -> " + INDEX,
                "turned -1 -> " + INDEX);
        edge("promise 8: the exception listed first", "12* world 6", "part 12 0 -> " + INDEX, "part 0 0 -> " + RANGE,
                "part 0 64 -> " + RANGE);
        edge("promise 9: the exception listed first", "12* world 6", "say Pz", "made 12 0 -> " + INDEX,
                "made 0 1 -> " + INDEX, "made 0 0 -> " + CANNOT);
        edge("12 worlds of 6 things are asked alike", "12* world 6", "say #x#y#z#u#v#w&=xy&=yz&=zu&=uv=vw",
                "holds 11 0 -> true", "truth 0 -> 1.0", "meanSize -> 6.0", "maps 11 11 -> 46656",
                "position 11 11 -> 0", "answers 3 -> true", "isSound -> true", "worlds -> 12");
    }

    private static void asked() {
        String[] calls = {"types ? 0", "colours ? false", "colours ? true", "kinds ? 0", "core ?", "operations ?",
            "reaches ? 0", "ball ? 0 0", "holds ? 0", "ways ? 0", "orders ? 0", "someSet ? 0", "fixed ? 0 0 l",
            "stages ? 0 0 g", "maps ? 0", "maps 0 ?", "areAlike ? 0 false", "areAlike 0 ? true", "apart ? 0",
            "apart 0 ?", "pebbles ? 0 1 false", "pebbles 0 ? 2 true", "position ? 0", "position 0 ?",
            "areKind ? 0 0 0 0", "areKind 0 0 ? 0 0", "areStepwise ? 0 0 0", "areStepwise 0 0 ? 0"};
        for (String call : calls) {
            edge("if there is no such world: " + call, "world 1", "world 2", "say #xPx",
                    call.replace("?", "?0..1") + " -> " + INDEX, "worlds -> 2");
        }
        String[] things = {"reaches W ?", "ball W ? 0", "areKind W ? 0 0 0", "areKind 0 0 W ? 0",
            "areStepwise W ? 0 0", "areStepwise 0 0 W ?"};
        for (String call : things) {
            String least = call.replace('W', '0');
            String greatest = call.replace('W', '1');
            edge("if there is no such thing: " + call, "world 1", "world 6",
                    least.replace("?", "?0..0") + " -> " + INDEX, greatest.replace("?", "?0..5") + " -> " + INDEX,
                    least.replace("?", "0"), greatest.replace("?", "0"), greatest.replace("?", "5"));
        }
        String[] formulas = {"free ?", "rank ?", "width ?", "holds 0 ?", "ways 0 ?", "made 0 ?", "fixed 0 ? 0 w",
            "stages 0 ? 0 w", "orders 0 ?", "someSet 0 ?", "chance ? 1", "truth ?"};
        for (String call : formulas) {
            edge("if there is no such formula: " + call, "world 1", call.replace("?", "0") + " -> " + INDEX,
                    "say !#xPx", "say #x=xx", call.replace("?", "?0..1") + " -> " + INDEX, call.replace("?", "0"),
                    call.replace("?", "1"));
        }
    }

    private static void buffer() {
        edge("promise 12: if there is no such sign", "type ?[EF=<PQX!&|#@123456xyzuvw] -> " + RANGE, "fault -> 0",
                "erase -> 0");
        edge("promise 12: each sign", "type E -> 1", "type F -> 2", "type = -> 3", "type < -> 4", "type P -> 5",
                "type Q -> 6", "type X -> 7", "type ! -> 8", "type & -> 9", "type | -> 10", "type #35 -> 11",
                "type @ -> 12", "type 1 -> 13", "type 2 -> 14", "type 3 -> 15", "type 4 -> 16", "type 5 -> 17",
                "type 6 -> 18", "type x -> 19", "type y -> 20", "type z -> 21", "type u -> 22", "type v -> 23",
                "type w -> 24", "erase -> 24");
        edge("promise 12: if there are 40", "39* type !", "type P -> 40", "type x -> " + STATE, "type ! -> " + STATE,
                "fault -> 40", "formula -> " + CANNOT, "erase -> 40", "type P -> 1");
        edge("promise 12: the exception listed first", "40* type !", "type 0 -> " + RANGE, "type 7 -> " + RANGE,
                "type t -> " + RANGE, "type #0 -> " + RANGE);
        edge("promise 13: empty and full", "erase -> 0", "erase -> 0", "type w -> 1", "erase -> 1", "erase -> 0",
                "40* type #", "erase -> 40", "erase -> 0", "fault -> 0", "type w -> 1");
        edge("promise 14: if it is none", "formula -> " + CANNOT, "type P -> 1", "formula -> " + CANNOT,
                "type x -> 2", "type x -> 3", "formula -> " + CANNOT, "erase -> 3", "say Px -> 0",
                "formula -> " + CANNOT);
        edge("promise 14: it is empty then", "say Px -> 0", "fault -> 0", "erase -> 0", "type Q -> 1", "type y -> 2",
                "formula -> 1", "free 0 -> 1", "free 1 -> 2", "erase -> 0");
        edge("promise 14: of 40 signs", "38* type !", "type P -> 39", "fault -> 39", "formula -> " + CANNOT,
                "type x -> 40", "fault -> -1", "formula -> 0", "rank 0 -> 0", "width 0 -> 1", "free 0 -> 1",
                "draw 2:P1", "ways 0 0 -> 1", "let 0 1 -> 0", "holds 0 0 -> true", "type P -> 1");
        edge("promise 14: if there are 20", "19* say Px", "say Qy -> 19", "text Qy -> 2",
                "formula -> " + STATE, "erase -> 2", "text Exy -> 3", "formula -> " + STATE, "fault -> -1", "free 19 -> 2", "free 20 -> " + INDEX,
                "erase -> 3");
        edge("promise 14: the exception listed first", "20* say Px", "formula -> " + CANNOT, "text P -> 1",
                "formula -> " + CANNOT, "text xx -> 3", "formula -> " + CANNOT, "erase -> 3");
        String[][] faults = {{"E", "1"}, {"Ex", "2"}, {"Exy", "-1"}, {"Exyx", "3"}, {"F", "1"}, {"Fw", "2"},
            {"Fww", "-1"}, {"FwwP", "3"}, {"=", "1"}, {"=z", "2"}, {"=zz", "-1"}, {"<", "1"}, {"<u", "2"},
            {"<uv", "-1"}, {"P", "1"}, {"Px", "-1"}, {"Pxy", "2"}, {"Q", "1"}, {"Qv", "-1"}, {"X", "1"},
            {"Xz", "-1"}, {"XzXz", "2"}, {"!", "1"}, {"!!", "2"}, {"!Px", "-1"}, {"&", "1"}, {"&Px", "3"},
            {"&PxPy", "-1"}, {"&PxPyPz", "5"}, {"|", "1"}, {"|Exy", "4"}, {"|ExyExy", "-1"}, {"#", "1"},
            {"#x", "2"}, {"#xPx", "-1"}, {"#xPxx", "4"}, {"@", "1"}, {"@w", "2"}, {"@wPw", "-1"}, {"1", "1"},
            {"1x", "2"}, {"1xPx", "-1"}, {"6", "1"}, {"6w", "2"}, {"6wXw", "-1"}, {"x", "0"}, {"w", "0"},
            {"EE", "1"}, {"ExE", "2"}, {"E#", "1"}, {"P1", "1"}, {"#P", "1"}, {"#1", "1"}, {"@!", "1"},
            {"#xx", "2"}, {"1xy", "2"}, {"!x", "1"}, {"&x", "1"}, {"&Pxx", "3"}, {"|Px|", "4"}, {"PxEx", "2"},
            {"Px!", "2"}, {"Px#", "2"}, {"Px1", "2"}, {"&&PxPy", "6"}, {"&&PxPyPz", "-1"}, {"&Px&PyPz", "-1"}};
        for (String[] fault : faults) {
            edge("promise 15: the place of the first sign, its length if it ends too early, -1", "text " + fault[0],
                    "fault -> " + fault[1], "formula -> " + (fault[1].equals("-1") ? "0" : CANNOT),
                    "erase -> " + (fault[1].equals("-1") ? 0 : fault[0].length()));
        }
        edge("promise 15: empty, full", "fault -> 0", "40* type &", "fault -> 40", "erase -> 40", "fault -> 0");
        edge("promise 15: a fault at the last of 40 signs", "37* type !", "text Px -> 39", "fault -> -1",
                "type x -> 40", "fault -> 39", "formula -> " + CANNOT, "erase -> 40");
        edge("promise 15: a fault at the first of 40 signs", "40* type v", "fault -> 0", "erase -> 40");
    }

    private static void formulas() {
        edge("promise 16: none, each, and all names", "say #xPx", "say Px", "say Py", "say Pz", "say Pu", "say Pv",
                "say Pw", "say &Exy&FzuEvw", "free 0 -> 0", "free 1 -> 1", "free 2 -> 2", "free 3 -> 4",
                "free 4 -> 8", "free 5 -> 16", "free 6 -> 32", "free 7 -> 63");
        edge("promise 16: the last of 20", "19* say #xPx", "say Pw -> 19", "free 19 -> 32", "free 20 -> " + INDEX,
                "rank 20 -> " + INDEX, "width 20 -> " + INDEX, "rank 18 -> 1", "width 19 -> 1");
        edge("promise 16: bound by the nearest one around it", "say #x#xPx", "say &#xPxPx", "say &Px@xPx",
                "say 3xExy", "say #y#xExy", "say #y&Exy#xExy", "free 0 -> 0", "free 1 -> 1", "free 2 -> 1",
                "free 3 -> 2", "free 4 -> 0", "free 5 -> 1");
        edge("promise 17: none around one another, the most of 40 signs", "19* text #x", "text Px -> 40",
                "formula -> 0", "rank 0 -> 19", "width 0 -> 1", "free 0 -> 0", "say Px -> 1", "rank 1 -> 0",
                "say &#xPx#yPy -> 2", "rank 2 -> 1", "say !@x!1y!6zPz -> 3", "rank 3 -> 3", "say |Px#yPy -> 4",
                "rank 4 -> 1");
        edge("promise 18: 1 to 6 names, bound ones and just told ones too", "say Pw", "say Exy", "say #wPx",
                "say #u#vPu", "say &Exy&FzuEvw", "say #x#y#z#u#v#w=xx", "say #x#x#xExx", "width 0 -> 1",
                "width 1 -> 2", "width 2 -> 2", "width 3 -> 2", "width 4 -> 6", "width 5 -> 6", "width 6 -> 1");
    }

    private static void saying() {
        edge("promise 19: name, 0 to 5", "let ?0..5 0 -> " + RANGE, "let 0 1 -> 0", "let 5 2 -> 0", "let 0 3 -> 1",
                "let 5 4 -> 2", "let ?0..5 3 -> " + RANGE);
        edge("promise 19: thing, 0 to 5", "let 0 ?0..5 -> " + RANGE, "let 0 5 -> 0", "let 0 0 -> 5",
                "let 5 ?0..5 -> " + RANGE, "let 5 5 -> 0", "let 5 0 -> 5", "let ?0..5 6 -> " + RANGE);
        edge("promise 20: if a free name is let be a thing that there is not, of 1", "draw 1:P0", "say Px", "say Pw",
                "holds 0 0 -> true", "let 0 1 -> 0", "holds 0 0 -> " + CANNOT, "holds 0 1 -> true", "let 0 5 -> 1",
                "holds 0 0 -> " + CANNOT, "let 5 1 -> 0", "holds 0 1 -> " + CANNOT, "let 5 0 -> 1",
                "holds 0 1 -> true");
        edge("promise 20: if a free name is let be a thing that there is not, of 5 and 6", "draw 5:P4", "draw 6:P5",
                "say Px", "let 0 5 -> 0", "holds 0 0 -> " + CANNOT, "holds 1 0 -> true", "let 0 4 -> 5",
                "holds 0 0 -> true", "holds 1 0 -> false");
        for (int name = 0; name < 6; name++) {
            char sign = "xyzuvw".charAt(name);
            edge("promise 20: each free name", "draw 2:P1", "say P" + sign, "say #" + sign + "P" + sign,
                    "let " + name + " 1", "holds 0 0 -> true", "let " + name + " 2", "holds 0 0 -> " + CANNOT,
                    "holds 0 1 -> true", "let " + name + " 0", "holds 0 0 -> false");
        }
        edge("promise 20: free and bound, and not there", "draw 2:P1", "say &Px#xPx", "say #y&PyEyx", "say =xx",
                "let 0 2 -> 0", "holds 0 0 -> " + CANNOT, "holds 0 1 -> " + CANNOT, "holds 0 2 -> " + CANNOT,
                "let 0 1 -> 2", "let 1 5 -> 0", "holds 0 0 -> true", "holds 0 1 -> false", "holds 0 2 -> true");
        edge("promise 20: the exception listed first", "draw 1:P0", "say Px", "let 0 1", "holds 1 0 -> " + INDEX,
                "holds 0 1 -> " + INDEX, "holds 0 0 -> " + CANNOT);
        for (int size = 1; size <= 6; size++) {
            for (int least = 1; least <= 6; least++) {
                edge("formulas: at least " + least + " things of " + size, "world " + size, "say " + least + "x=xx",
                        "say " + least + "xXx", "say #x=xx", "say @xXx", "holds 0 0 -> " + (size >= least),
                        "holds 0 1 -> false", "holds 0 2 -> true", "holds 0 3 -> false");
            }
        }
        edge("promise 21: of one without free names", "draw 3:P1", "say #xPx", "say #xQx", "say @x=xx", "say #xXx",
                "ways 0 0 -> 1", "ways 0 1 -> 0", "ways 0 2 -> 1", "ways 0 3 -> 0");
        edge("promise 21: of one name, of all six, whatever they are let be", "draw 1:P0", "draw 6:P5", "say Px",
                "say &Px&Py&Pz&Pu&PvPw", "say !&Px&Py&Pz&Pu&PvPw", "let 0 5", "let 5 5", "ways 0 0 -> 1",
                "ways 0 1 -> 1", "ways 0 2 -> 0", "ways 1 0 -> 1", "ways 1 1 -> 1", "ways 1 2 -> 46655",
                "let 0 0 -> 5", "let 5 0 -> 5");
    }

    private static void positions() {
        edge("promise 22: how many pairs the one before had, if there was one", "world 1", "world 6",
                "position 0 1 -> 0", "position 1 1 -> 0", "pair 5 5 -> 1", "position 1 0 -> 1", "position 0 0 -> 0",
                "6* pair 0 0", "position 0 0 -> 6", "position 0 0 -> 0");
        edge("promise 22: if there is no such world, for either", "position 0 0 -> " + INDEX, "draw 2:01", "draw 2:10",
                "position ?0..1 0 -> " + INDEX, "position 0 ?0..1 -> " + INDEX, "position 0 1 -> 0",
                "pair 0 0 -> 1", "pair 1 1 -> 2", "position ?0..1 0 -> " + INDEX, "position 0 ?0..1 -> " + INDEX,
                "position 1 ?0..1 -> " + INDEX, "position ?0..1 1 -> " + INDEX, "position 2 2 -> " + INDEX,
                "isAlike -> false", "position 1 1 -> 2");
        edge("promise 23: if no position was begun", "world 2", "pair 0 0 -> " + NONE, "pair ?0..1 0 -> " + NONE,
                "pair 0 ?0..1 -> " + NONE);
        edge("promise 23: if there is no such thing, for either", "world 2", "world 3", "position 0 1",
                "pair ?0..1 0 -> " + INDEX, "pair 0 ?0..2 -> " + INDEX, "pair 2 2 -> " + INDEX, "pair 1 2 -> 1",
                "position 1 0 -> 1", "pair ?0..2 0 -> " + INDEX, "pair 0 ?0..1 -> " + INDEX, "pair 2 1 -> 1",
                "pair 2 2 -> " + INDEX, "position 0 0 -> 1");
        edge("promise 23: if it has 6", "world 1", "world 6", "position 1 1", "pair 0 0 -> 1", "pair 1 1 -> 2",
                "pair 2 2 -> 3", "pair 3 3 -> 4", "pair 4 4 -> 5", "isAlike -> true", "pair 5 5 -> 6",
                "isAlike -> true", "pair 0 0 -> " + STATE, "pair 5 5 -> " + STATE, "isAlike -> true",
                "position 1 1 -> 6", "pair 0 0 -> 1");
        edge("promise 23: the exception listed first", "world 2", "world 3", "position 0 1", "6* pair 1 2",
                "pair ?0..1 0 -> " + INDEX, "pair 0 ?0..2 -> " + INDEX, "position 0 1 -> 6");
        edge("promise 24: if no position was begun", "world 1", "isAlike -> " + NONE, "position 0 0",
                "isAlike -> true");
        edge("promise 24: without pairs, of worlds unlike", "draw 1:00,P0", "draw 6:F01,Q3", "position 0 1",
                "isAlike -> true", "pair 0 0 -> 1", "isAlike -> false");
        edge("promise 24: by the sixth pair alone", "draw 6:", "draw 6:05", "position 0 1", "pair 0 0", "pair 1 1",
                "pair 2 2", "pair 3 3", "pair 4 4", "isAlike -> true", "pair 5 5", "isAlike -> false", "stepped 1 0 5",
                "isAlike -> true", "marked 0 5 Q", "isAlike -> false", "marked 1 5 Q", "isAlike -> true",
                "threaded 0 5 5", "isAlike -> false");
        edge("promise 24: the same pair six times, and one that is another", "world 2", "position 0 0", "5* pair 0 0",
                "isAlike -> true", "pair 0 1 -> 6", "isAlike -> false");
    }

    private static void rounds() {
        edge("promise 25: if no position was begun", "world 1", "answers 0 -> " + NONE, "answers 3 -> " + NONE,
                "answers ?0..3 -> " + NONE, "position 0 0", "answers 0 -> true");
        edge("promise 25: rounds, 0 to 3", "world 2", "world 3", "position 0 1", "answers ?0..3 -> " + RANGE,
                "answers 0 -> true", "answers 1 -> true", "answers 2 -> true", "answers 3 -> false");
        edge("promise 25: the position itself, unlike", "draw 2:P0", "position 0 0", "pair 0 1", "answers 0 -> false",
                "answers 1 -> false", "answers 2 -> false", "answers 3 -> false");
        edge("promise 25: pairs added beyond the sixth one", "world 6", "world 6", "position 0 1", "pair 0 5",
                "pair 1 4", "pair 2 3", "pair 3 2", "pair 4 1", "pair 5 0", "answers 0 -> true", "answers 1 -> true",
                "answers 2 -> true", "answers 3 -> true", "stepped 1 0 5", "answers 0 -> false");
        edge("promise 25: a spoiler who wins by the seventh, eighth and ninth pair", "world 3", "world 4",
                "position 0 1", "6* pair 0 0", "answers 0 -> true", "answers 1 -> true", "answers 2 -> true",
                "answers 3 -> false", "position 0 0", "6* pair 0 0", "answers 3 -> true");
        edge("promise 25: a spoiler who wins by the seventh pair", "draw 2:P1", "world 2", "position 0 1",
                "6* pair 0 0", "answers 0 -> true", "answers 1 -> false");
        // Where a thing is both led to and leads on, it alone spoils: the first or the last thing of a world.
        edge("promise 25: the one who spoils wins by one thing alone", "draw 4:01,23", "draw 3:10,02", "draw 3:02,21",
                "position 0 1", "answers 1 -> true", "answers 2 -> false", "position 1 0", "answers 1 -> true",
                "answers 2 -> false", "position 0 2", "answers 1 -> true", "answers 2 -> false", "position 2 0",
                "answers 1 -> true", "answers 2 -> false", "answers 3 -> false");
        edge("promise 26: if no position was begun", "world 1", "answer true 0 0 -> " + NONE,
                "answer false ?0..0 0 -> " + NONE, "answer true 0 ?0..2 -> " + NONE);
        edge("promise 26: rounds, 0 to 2", "world 2", "world 2", "position 0 1", "answer true 0 ?0..2 -> " + RANGE,
                "answer false 0 ?0..2 -> " + RANGE, "answer true 1 0 -> 0", "answer true 1 2 -> 0",
                "answer false 1 2 -> 0");
        edge("promise 26: if there is no such thing", "world 2", "world 3", "position 0 1",
                "answer true ?0..1 0 -> " + INDEX, "answer false ?0..2 0 -> " + INDEX, "answer true 1 1 -> 0",
                "answer false 2 1 -> 0");
        edge("promise 26: if there is none", "draw 2:P0", "draw 2:", "position 0 1", "answer true 0 0 -> " + CANNOT,
                "answer true 1 0 -> 0", "answer true 1 1 -> " + CANNOT, "answer true 1 2 -> " + CANNOT,
                "answer false 1 0 -> 1", "answer false 1 1 -> " + CANNOT, "pair 0 0", "answer true 1 0 -> " + CANNOT,
                "answer false 0 0 -> " + CANNOT);
        edge("promise 26: the exception listed first", "draw 2:P0", "draw 3:", "position 0 1",
                "answer true 2 3 -> " + RANGE, "answer true 0 3 -> " + RANGE, "answer false 3 -1 -> " + RANGE,
                "answer true 2 2 -> " + INDEX, "answer true 0 2 -> " + CANNOT);
        edge("promise 26: the lowest, the last one", "draw 6:P5", "draw 6:P5", "position 0 1", "answer true 5 2 -> 5",
                "answer true 4 2 -> 0", "answer false 5 0 -> 5", "answer false 0 0 -> 0");
        edge("promise 26: behind six pairs", "world 6", "world 6", "position 0 1", "pair 0 5", "pair 1 4", "pair 2 3",
                "pair 3 2", "pair 4 1", "pair 5 0", "answer true 0 0 -> 5", "answer true 5 2 -> 0",
                "answer false 5 2 -> 0", "answer false 2 1 -> 3", "position 0 0 -> 6");
    }

    private static void pebblesAndTypes() {
        edge("promise 27: 1 or 2", "world 2", "world 3", "pebbles 0 1 ?1..2 false -> " + RANGE,
                "pebbles 0 1 ?1..2 true -> " + RANGE, "pebbles 0 1 1 false -> true", "pebbles 0 1 2 false -> true",
                "pebbles 0 1 1 true -> false", "pebbles 0 1 2 true -> false", "pebbles 1 1 2 true -> true");
        edge("promise 27: the exception listed first", "world 2", "pebbles 0 1 0 false -> " + INDEX,
                "pebbles 1 0 3 true -> " + INDEX, "pebbles -1 -1 3 true -> " + INDEX);
        edge("promise 27: none lying at first", "draw 2:P0", "position 0 0", "pair 0 1", "isAlike -> false",
                "pebbles 0 0 1 false -> true", "pebbles 0 0 2 true -> true", "position 0 0 -> 1");
        edge("promise 27: without as many things in both there is none", "world 1", "world 2", "world 6",
                "pebbles 0 1 1 false -> true", "pebbles 0 1 1 true -> false", "pebbles 1 0 1 true -> false",
                "pebbles 1 2 2 false -> true", "pebbles 1 2 2 true -> false", "pebbles 2 2 2 true -> true");
        // The first of the second world leads to P alone, as nothing does in the first one.
        edge("promise 27: the one who spoils wins by the first thing alone", "draw 6:01,02,34,35,P1,P4,Q2,Q5",
                "draw 5:01,23,24,P1,P3,Q4", "draw 5:21,20,43,P1,P3,Q0", "pebbles 0 1 1 false -> true",
                "pebbles 0 1 2 false -> false", "pebbles 1 0 2 false -> false", "pebbles 0 2 2 false -> false",
                "pebbles 2 0 2 false -> false", "pebbles 1 2 2 false -> true", "pebbles 1 2 2 true -> true");
        edge("promise 27: of 1 thing each", "draw 1:", "draw 1:00", "draw 1:00", "pebbles 0 1 1 false -> false",
                "pebbles 0 1 2 false -> false", "pebbles 1 2 1 false -> true", "pebbles 1 2 2 true -> true");
        edge("promise 28: rank, 0 to 2", "draw 3:01,12", "types 0 ?0..2 -> " + RANGE, "types 0 0 -> 1",
                "types 0 1 -> 3", "types 0 2 -> 3");
        edge("promise 28: the exception listed first", "world 1", "types 1 3 -> " + INDEX, "types -1 -1 -> " + INDEX);
        edge("promise 28: of 1 thing, of 6 things alike, of 6 things unlike", "world 1", "world 6",
                "draw 6:01,12,23,34,45", "types 0 0 -> 1", "types 0 2 -> 1", "types 1 0 -> 1", "types 1 2 -> 1",
                "types 2 0 -> 1", "types 2 1 -> 3", "types 2 2 -> 6");
        edge("promise 28: without another pair at first", "draw 2:P0", "position 0 0", "pair 0 1", "types 0 0 -> 2",
                "types 0 2 -> 2");
        edge("two worlds are told apart by a formula of a rank", "draw 2:", "draw 1:", "apart 0 1 -> 2", "position 0 1",
                "answers 1 -> true", "answers 2 -> false", "tells 2 -> #x#y!=xy", "say #x#y!=xy", "rank 0 -> 2",
                "holds 0 0 -> true", "holds 1 0 -> false");
        edge("promise 29: if the one who answers wins in 3 rounds", "world 3", "world 6", "apart 0 1 -> " + NONE,
                "apart 1 0 -> " + NONE, "apart 0 0 -> " + NONE, "world 1", "world 1", "apart 2 3 -> " + NONE);
        edge("promise 29: 1, 2, 3", "draw 1:", "draw 2:", "draw 3:", "draw 2:P0", "apart 1 3 -> 1", "apart 3 1 -> 1",
                "apart 0 1 -> 2", "apart 1 0 -> 2", "apart 1 2 -> 3", "apart 2 1 -> 3", "apart 0 2 -> 2");
        edge("promise 29: the exception listed first", "world 1", "apart 0 1 -> " + INDEX, "apart 1 0 -> " + INDEX,
                "apart 0 0 -> " + NONE);
        edge("promise 29: without a pair at first", "draw 2:P0", "draw 2:P0", "position 0 1", "pair 0 1",
                "isAlike -> false", "apart 0 1 -> " + NONE);
    }

    private static void tellings() {
        edge("promise 30: if no position was begun", "world 1", "telling 0 -> " + NONE, "telling ?0..3 -> " + NONE);
        edge("promise 30: rounds, 0 to 3", "world 2", "world 3", "position 0 1", "telling ?0..3 -> " + RANGE,
                "telling 0 -> " + CANNOT, "telling 1 -> " + CANNOT, "telling 2 -> " + CANNOT,
                "tells 3 -> #x&#y&!=xy!#z&!=xz!=yz#y&!#z&!=xz!=yz!=xy");
        edge("promise 30: if the one who answers wins in so many rounds", "draw 2:P1", "draw 2:", "position 0 1",
                "telling 0 -> " + CANNOT, "tells 1 -> #xPx", "position 1 1", "telling 0 -> " + CANNOT,
                "telling 1 -> " + CANNOT, "telling 2 -> " + CANNOT, "telling 3 -> " + CANNOT);
        edge("promise 30: a position that is not alike, in any rounds", "draw 1:P0", "draw 1:", "position 0 1",
                "pair 0 0", "tells 0 -> Px", "tells 1 -> Px", "tells 2 -> Px", "tells 3 -> Px");
        edge("promise 30: six names told", "draw 6:P5", "draw 6:", "position 0 1", "pair 0 0", "pair 1 1", "pair 2 2",
                "pair 3 3", "pair 4 4", "pair 5 5", "tells 0 -> Pw", "tells 3 -> Pw", "tellingAt 3 1 -> w",
                "isSound -> true");
        edge("promise 30: a sixth name for five pairs", "draw 2:P1", "draw 2:", "position 0 1", "5* pair 0 0",
                "telling 0 -> " + CANNOT, "tells 1 -> #w&!=xwPw", "isSound -> true");
        edge("promise 30: there would be more than 6 names, with six pairs", "draw 2:P1", "draw 2:", "position 0 1",
                "6* pair 0 0", "answers 1 -> false", "telling 0 -> " + CANNOT, "telling 1 -> " + CANNOT,
                "telling 2 -> " + CANNOT, "telling 3 -> " + CANNOT, "tellingAt 1 0 -> " + CANNOT, "isSound -> true");
        edge("promise 30: there would be more than 6 names, with five pairs and two rounds", "draw 2:P1", "draw 2:",
                "position 0 1", "5* pair 0 0", "answers 2 -> false", "telling 2 -> " + CANNOT,
                "tellingAt 2 0 -> " + CANNOT, "telling 1 -> 9");
        edge("promise 30: four pairs and two rounds", "draw 2:P1", "draw 2:", "position 0 1", "4* pair 0 0",
                "tells 1 -> #v&!=xvPv", "tells 2 -> #v&#w&!=xwPw=xv", "telling 3 -> " + CANNOT);
        edge("promise 30: three pairs and three rounds", "world 3", "world 4", "position 0 1", "3* pair 0 0",
                "telling 2 -> " + CANNOT, "tells 3 -> #u&!=xu&#v&!=xv&!=uv!#w&!=xw&!=uw!=vw#v&!=xv&!#w&!=xw&!=uw!=vw!=uv");
        edge("promise 30: four pairs and three rounds", "world 3", "world 4", "position 0 1", "4* pair 0 0",
                "answers 3 -> false", "telling 3 -> " + CANNOT);
        edge("promise 31: if no position was begun", "world 1", "tellingAt 0 0 -> " + NONE,
                "tellingAt ?0..3 0 -> " + NONE, "tellingAt 0 ?0..0 -> " + NONE);
        edge("promise 31: rounds, 0 to 3", "draw 1:P0", "draw 1:", "position 0 1", "pair 0 0",
                "tellingAt ?0..3 0 -> " + RANGE, "tellingAt 0 0 -> P", "tellingAt 3 1 -> x");
        edge("promise 31: if there is no such sign", "draw 2:01", "draw 2:", "position 0 1", "pair 0 0", "pair 1 1",
                "tellingAt 0 ?0..2 -> " + NONE, "tellingAt 3 ?0..2 -> " + NONE, "tellingAt 0 0 -> E",
                "tellingAt 0 1 -> x", "tellingAt 0 2 -> y");
        edge("promise 31: if the one who answers wins in so many rounds", "world 2", "world 3", "position 0 1",
                "tellingAt 0 0 -> " + CANNOT, "tellingAt 2 0 -> " + CANNOT, "tellingAt 3 0 -> #");
        edge("promises 30 and 31: a formula of 595 signs", "draw " + FIVE_THINGS, "draw " + SIX_THINGS,
                "position 0 1", "telling 3 -> 595", "tellingAt 3 0 -> #", "tellingAt 3 ?0..594 -> " + NONE,
                "tellingAt 3 594 -> y", "tellingAt 3 1 -> x");
        edge("promises 30 and 31: a formula of 601 signs", "draw 4:" + ALL_OF_FOUR + ",F03,F20,F21,F31,F32",
                "draw 6:" + ALL_OF_FOUR + ALL_BEYOND + ",F02,F15,F24,F31,F40,F53", "position 0 1",
                "answers 3 -> false", "telling 3 -> " + CANNOT, "tellingAt 3 0 -> " + CANNOT,
                "tellingAt 3 600 -> " + CANNOT, "isSound -> true");
    }

    private static void colours() {
        edge("promise 32: of 1 thing, of 6 things alike, of 6 unlike", "world 1", "world 6", "draw 6:01,12,23,34,45",
                "colours 0 false -> 1", "colours 0 true -> 1", "colours 1 false -> 1", "colours 1 true -> 2",
                "colours 2 false -> 6", "colours 2 true -> 36");
        edge("promise 33: the same world, and one of another size", "draw 1:00,P0", "draw 2:00,11,P0,P1",
                "draw 1:00,P0", "areAlike 0 0 false -> true", "areAlike 0 0 true -> true",
                "areAlike 0 1 false -> false", "areAlike 1 0 true -> false", "areAlike 0 2 false -> true",
                "areAlike 0 2 true -> true");
    }

    private static void fixedPoints() {
        for (String call : new String[] {"fixed", "stages"}) {
            String promise = call.equals("fixed") ? "promise 34" : "promise 35";
            String dueOfAll = call.equals("fixed") ? "63" : "1";
            edge(promise + ": name, 0 to 5", "world 6", "say =xx", "say =ww", call + " 0 0 ?0..5 l -> " + RANGE,
                    call + " 0 0 0 l -> " + dueOfAll, call + " 0 1 5 l -> " + dueOfAll,
                    call + " 0 1 5 g -> " + dueOfAll, call + " 0 1 5 w -> " + dueOfAll);
            edge(promise + ": if there is no such kind", "world 2", "say Xx", call + " 0 0 0 ?[lgw] -> " + RANGE,
                    call + " 0 0 0 l -> 0", call + " 0 0 0 g -> 0", call + " 0 0 0 w -> 0");
            edge(promise + ": if another name is free in it", "world 2", "say Exy", "say Py", "say #yExy", "say #xPx",
                    call + " 0 0 0 l -> " + CANNOT, call + " 0 0 1 g -> " + CANNOT, call + " 0 0 2 w -> " + CANNOT,
                    call + " 0 1 0 l -> " + CANNOT, call + " 0 1 5 w -> " + CANNOT, call + " 0 1 1 l -> 0",
                    call + " 0 2 0 g -> 0", call + " 0 2 1 g -> " + CANNOT, call + " 0 3 5 l -> 0");
            edge(promise + ": for l, X under an odd number of !", "world 2", "say !Xx", "say !!Xx", "say !!!Xx",
                    "say &Xx!#y!!Xy", "say !&PxQx", "say |Px!@y!Xy", call + " 0 0 0 l -> " + CANNOT,
                    call + " 0 1 0 l -> 0", call + " 0 2 0 l -> " + CANNOT, call + " 0 3 0 l -> " + CANNOT,
                    call + " 0 4 0 l -> " + (call.equals("fixed") ? "3" : "1"), call + " 0 5 0 l -> 0",
                    call + " 0 0 0 g -> " + (call.equals("fixed") ? "3" : "1"),
                    call + " 0 0 0 w -> " + (call.equals("fixed") ? "0" : "2"));
            edge(promise + ": the exception listed first", "world 2", "say !Xy", call + " 1 0 6 k -> " + INDEX,
                    call + " 0 1 6 k -> " + INDEX, call + " 0 0 6 l -> " + RANGE, call + " 0 0 0 k -> " + RANGE,
                    call + " 0 0 0 l -> " + CANNOT, call + " 0 0 1 l -> " + CANNOT);
        }
        edge("promises 34 and 35: nothing new comes, at once", "world 1", "say Xx", "say #yPy", "fixed 0 0 0 l -> 0",
                "stages 0 0 0 l -> 0", "fixed 0 1 0 w -> 0", "stages 0 1 0 w -> 0", "stages 0 1 0 g -> 0");
        edge("promises 34 and 35: one after another, to the most", "draw 6:01,12,23,34,45,P0", "say |Px#y&XyEyx",
                "fixed 0 0 0 l -> 63", "stages 0 0 0 l -> 6", "fixed 0 0 0 g -> 63", "stages 0 0 0 g -> 6",
                "fixed 0 0 0 w -> 63", "stages 0 0 0 w -> 6");
        edge("promises 34 and 35: a set comes again that is not the one just ahead", "draw 2:01,10,P0", "say !Xx",
                "say |&Px!#yXy#y&XyEyx", "fixed 0 0 0 w -> 0", "stages 0 0 0 w -> 2", "fixed 0 0 0 g -> 3",
                "stages 0 0 0 g -> 1", "fixed 0 1 0 w -> 0", "stages 0 1 0 w -> 3", "fixed 0 1 0 g -> 3",
                "stages 0 1 0 g -> 2");
        // A set counts up by one, each bit turned when all lower ones are there, and ends where it began.
        edge("promises 34 and 35: each set of 6 things comes, and nothing comes again", "world 6",
                "say |&Xx!@y|!<yxXy&!Xx@y|!<yxXy", "fixed 0 0 0 w -> 0", "stages 0 0 0 w -> 64",
                "fixed 0 0 0 g -> 63", "stages 0 0 0 g -> 6");
        // It stays at the last one, as what is full has nothing to be turned.
        edge("promises 34 and 35: each set of 6 things comes, and the last one stays", "world 6",
                "say ||&Xx!@y|!<yxXy&!Xx@y|!<yxXy@yXy", "fixed 0 0 0 w -> 63", "stages 0 0 0 w -> 63");
        edge("promise 36: itself if they lead back, nothing without steps", "draw 1:", "draw 1:00",
                "draw 6:01,12,23,34,45,50", "draw 6:01,12,23,34,45", "draw 2:F01,F10", "reaches 0 0 -> 0",
                "reaches 1 0 -> 1", "reaches 2 0 -> 6", "reaches 2 5 -> 6", "reaches 3 0 -> 5", "reaches 3 5 -> 0",
                "reaches 4 0 -> 0");
    }

    private static void ordersAndSets() {
        edge("promise 37: of 1 to 6 things", "world 1", "world 2", "world 3", "world 4", "world 5", "world 6",
                "say #x@y|=xy<xy", "orders 0 0 -> 1", "orders 1 0 -> 2", "orders 2 0 -> 6", "orders 3 0 -> 24",
                "orders 4 0 -> 120", "orders 5 0 -> 720", "say #x<xx", "orders 0 1 -> 0", "orders 5 1 -> 0");
        edge("promise 37: one order of all", "draw 6:01,12,23,34,45", "say @x@y|!Exy<xy", "say @x@y|!Exy<yx",
                "orders 0 0 -> 1", "orders 0 1 -> 1", "holds 0 0 -> true", "holds 0 1 -> false");
        edge("promise 37: if a name is free in it", "world 2", "say Px", "say #y<yw", "say &#xPxPx",
                "orders 0 0 -> " + CANNOT, "orders 0 1 -> " + CANNOT, "orders 0 2 -> " + CANNOT,
                "orders 1 0 -> " + INDEX, "orders 0 3 -> " + INDEX);
        edge("promise 38: the empty set, the full one, of 1 and of 6", "world 1", "world 6", "say @x!Xx", "say @xXx",
                "say #xXx", "say 6xXx", "someSet 0 0 -> 0", "someSet 0 1 -> 1", "someSet 0 2 -> 1",
                "someSet 0 3 -> " + NONE, "someSet 1 0 -> 0", "someSet 1 1 -> 63", "someSet 1 2 -> 1",
                "someSet 1 3 -> 63", "say #x&Xx@y!<xy", "someSet 1 4 -> 32");
        edge("promise 38: if there is none", "world 6", "say #x!=xx", "say #x&Xx!Xx", "someSet 0 0 -> " + NONE,
                "someSet 0 1 -> " + NONE);
        edge("promise 38: if a name is free in it", "world 2", "say Xx", "say !=ww", "someSet 0 0 -> " + CANNOT,
                "someSet 0 1 -> " + CANNOT, "someSet 1 0 -> " + INDEX, "someSet 0 2 -> " + INDEX);
    }

    private static void nearAndFar() {
        edge("promise 39: radius, 0 to 6", "draw 6:01,21,F32,43,F45", "ball 0 0 ?0..6 -> " + RANGE, "ball 0 0 0 -> 1",
                "ball 0 5 0 -> 32", "ball 0 0 1 -> 3", "ball 0 0 4 -> 31", "ball 0 0 5 -> 63", "ball 0 0 6 -> 63",
                "ball 0 5 5 -> 63");
        edge("promise 39: of 1 thing, and of things apart", "draw 1:00", "world 6", "ball 0 0 0 -> 1",
                "ball 0 0 6 -> 1", "ball 1 3 6 -> 8");
        edge("promise 39: the exception listed first", "world 1", "ball 1 0 7 -> " + INDEX, "ball 0 1 7 -> " + INDEX,
                "ball 0 -1 -1 -> " + INDEX);
        edge("promise 40: radius, 0 to 6", "draw 6:01,12,23,34,45", "draw 6:01,12,23,34,45,P5",
                "areKind 0 0 1 0 ?0..6 -> " + RANGE, "areKind 0 0 1 0 0 -> true", "areKind 0 0 1 0 4 -> true",
                "areKind 0 0 1 0 5 -> false", "areKind 0 0 1 0 6 -> false", "areKind 0 0 0 0 6 -> true",
                "areKind 0 5 1 5 0 -> false");
        edge("promise 40: the exception listed first", "world 1", "areKind 1 0 0 0 7 -> " + INDEX,
                "areKind 0 1 0 0 7 -> " + INDEX, "areKind 0 0 1 0 -1 -> " + INDEX,
                "areKind 0 0 0 1 -1 -> " + INDEX, "areKind 0 0 0 0 7 -> " + RANGE);
        edge("promise 40: balls of unlike sizes, and of 1 thing", "draw 1:", "draw 2:01", "draw 2:",
                "areKind 0 0 1 0 0 -> true", "areKind 0 0 1 0 1 -> false", "areKind 0 0 2 1 6 -> true");
        edge("promise 41: radius, 0 to 6", "draw 6:01,12,23,34,45", "kinds 0 ?0..6 -> " + RANGE, "kinds 0 0 -> 1",
                "kinds 0 1 -> 3", "kinds 0 2 -> 5", "kinds 0 3 -> 6", "kinds 0 6 -> 6");
        edge("promise 41: of 1 thing, of 6 things alike", "world 1", "world 6", "kinds 0 0 -> 1", "kinds 0 6 -> 1",
                "kinds 1 0 -> 1", "kinds 1 6 -> 1");
        edge("promise 41: the exception listed first", "world 1", "kinds 1 7 -> " + INDEX, "kinds -1 -1 -> " + INDEX);
        edge("promise 42: size, 1 to 3", "say #x=xx", "say #x!=xx", "say #xExx", "say @x@yExy",
                "chance 0 ?1..3 -> " + RANGE, "chance 0 1 -> 2", "chance 0 2 -> 16", "chance 0 3 -> 512",
                "chance 1 1 -> 0", "chance 1 3 -> 0", "chance 2 1 -> 1", "chance 2 3 -> 448", "chance 3 1 -> 1",
                "chance 3 2 -> 1", "chance 3 3 -> 1", "worlds -> 0");
        edge("promise 42: without threads and marks", "draw 3:F00,F01,P0,Q0", "say #x#yFxy", "say #xPx", "say #xQx",
                "say #xXx", "chance 0 3 -> 0", "chance 1 3 -> 0", "chance 2 3 -> 0", "chance 3 3 -> 0",
                "operations 0", "chance 0 3 -> 0", "chance 1 3 -> 0", "chance 2 3 -> 0", "chance 3 3 -> 0",
                "turned 0", "operations 1", "chance 0 1 -> 0", "chance 1 2 -> 0", "chance 2 1 -> 0",
                "someSet 0 3 -> 1", "chance 3 1 -> 0");
        edge("promise 42: the exception listed first", "say Px", "chance 1 0 -> " + INDEX, "chance -1 4 -> " + INDEX,
                "chance 0 0 -> " + RANGE, "chance 0 4 -> " + RANGE, "chance 0 1 -> " + CANNOT,
                "chance 0 3 -> " + CANNOT);
    }

    private static void maps() {
        edge("promise 43: of 1 thing and of 6", "world 1", "world 6", "maps 0 0 -> 1", "maps 0 1 -> 6",
                "maps 1 0 -> 1", "maps 1 1 -> 46656", "marked 1 5 P", "maps 1 0 -> 0", "maps 1 1 -> 7776",
                "maps 0 1 -> 6", "stepped 0 0 0", "maps 0 1 -> 0", "maps 0 0 -> 1");
        edge("promise 44: from 1 to 6", "world 1", "world 6", "draw 6:01,12,23,34,45,50,10,21,32,43,54,05",
                "draw 6:01,12,23,34,45", "draw 3:01,12,20", "core 0 -> 1", "core 1 -> 1", "core 2 -> 2",
                "core 3 -> 6", "core 4 -> 3", "stepped 3 5 5", "core 3 -> 1");
        edge("promise 44: the world itself, without a map to a lesser part", "draw 6:P0,P1,P2,Q2,Q3,01,23,F34,F45",
                "draw 2:P0,Q1", "draw 2:", "core 1 -> 2", "core 2 -> 1");
        edge("promise 45: itself, things without steps, things of one world", "draw 1:", "draw 1:00", "draw 6:01,23,P3",
                "areStepwise 0 0 0 0 -> true", "areStepwise 0 0 1 0 -> false", "areStepwise 2 0 2 2 -> false",
                "areStepwise 2 4 2 5 -> true", "areStepwise 2 1 0 0 -> true", "areStepwise 2 3 0 0 -> false",
                "areStepwise 2 2 2 2 -> true");
        edge("promise 46: if it has more than 3 things", "world 3", "world 4", "world 6", "operations 1 -> " + CANNOT,
                "operations 2 -> " + CANNOT, "operations 0 -> 19683", "world 1", "operations 3 -> 1", "world 2",
                "operations 4 -> 16");
        edge("promise 46: the exception listed first", "world 6", "operations 1 -> " + INDEX, "operations 0 -> " + CANNOT);
        edge("promise 46: all steps, threads and marks", "draw 1:00,F00,P0,Q0", "draw 2:00,01,10,11,P0,P1",
                "operations 0 -> 1", "operations 1 -> 16");
    }

    private static void wholeCourt() {
        edge("promise 47: none to 12", "worlds -> 0", "world 0 -> " + RANGE, "worlds -> 0", "world 1", "worlds -> 1",
                "10* world 1", "worlds -> 11", "turned 0 -> 11", "worlds -> 12", "turned 0 -> " + STATE,
                "worlds -> 12");
        edge("promise 48: if there are no worlds", "say #xPx", "truth 0 -> " + DIVIDE, "draw 1:", "truth 0 -> 0.0",
                "draw 1:P0", "truth 0 -> 0.5", "draw 6:", "truth 0 -> 0.33333334", "draw 6:P5", "draw 6:P0,P5",
                "draw 6:", "draw 6:", "truth 0 -> 0.42857143");
        edge("promise 48: of 12 worlds", "say #xPx", "11* world 1", "truth 0 -> 0.0", "draw 1:P0",
                "truth 0 -> 0.083333336", "say @x=xx", "truth 1 -> 1.0");
        edge("promise 48: the exception listed first", "say Px", "truth 1 -> " + INDEX, "truth -1 -> " + INDEX,
                "truth 0 -> " + CANNOT, "world 1", "truth 0 -> " + CANNOT, "truth 1 -> " + INDEX);
        edge("promise 49: if there are none", "meanSize -> " + DIVIDE, "world 6", "meanSize -> 6.0", "world 1",
                "meanSize -> 3.5", "world 1", "meanSize -> 2.6666666666666665", "9* world 6",
                "meanSize -> 5.166666666666667");
        edge("promise 50: no position, no worlds, one world", "isSound -> true", "world 1", "isSound -> true",
                "position 0 0", "isSound -> true");
        edge("promise 50: worlds unlike by both colours, or by those of two",
                "draw 6:01,12,23,34,45,50,10,21,32,43,54,05", "draw 6:01,12,20,10,21,02,34,45,53,43,54,35",
                "draw 6:", "draw 1:", "areAlike 0 1 false -> true", "areAlike 0 1 true -> false", "position 0 1",
                "isSound -> true", "position 0 2 -> 0", "isSound -> true", "pair 0 0", "pair 1 1", "isSound -> true",
                "position 2 3 -> 2", "isSound -> true");
        edge("promise 50: what it asks leaves all as it was", "draw 2:P1", "draw 2:", "position 0 1", "pair 0 0",
                "text #x", "let 0 5", "isSound -> true", "let 0 0 -> 5", "erase -> 2", "isAlike -> true",
                "position 1 1 -> 1");
    }

    private static void whatIsThereWhereNothingIsTold() {
        edge("an object is used for at most 512 calls", "10* world 6", "draw 6:01,12,23,34,45,50", "draw 6:05",
                "say #x#y#z#u#v#w&Exy&Eyz&Ezu&EuvEvw", "say &=xx&=yy&=zz&=uu&=vv=ww", "position 10 11",
                "100* ways 0 1 -> 46656", "100* truth 0 -> 0.083333336", "100* orders 10 0 -> 720",
                "83* someSet 10 0 -> 0", "50* answers 3 -> false", "type P -> 1", "worlds -> 12",
                "isSound -> true");
        edge("the set X is empty, where no other one is told", "draw 3:01", "say Xx", "say #xXx", "say @x!Xx",
                "ways 0 0 -> 0", "holds 0 0 -> false", "holds 0 1 -> false", "holds 0 2 -> true",
                "someSet 0 1 -> 1", "holds 0 1 -> false", "ways 0 0 -> 0", "say |=xxXx", "fixed 0 3 0 l -> 7",
                "ways 0 0 -> 0", "orders 0 1 -> 0", "orders 0 2 -> 6", "chance 2 2 -> 16", "chance 1 2 -> 0",
                "truth 1 -> 0.0", "truth 2 -> 1.0", "made 0 0 -> 1", "many 1 E -> 0");
        edge("the order is that of the numbers, where no other one is told", "draw 3:20", "say <xy", "say @x@y|!Exy<xy",
                "ways 0 0 -> 3", "holds 0 1 -> false", "orders 0 1 -> 3", "holds 0 1 -> false", "ways 0 0 -> 3",
                "truth 1 -> 0.0", "chance 1 2 -> 2", "chance 1 3 -> 8", "someSet 0 1 -> " + NONE, "made 0 0 -> 1",
                "told 1 -> 3:01,02,12");
        edge("a game has no pairs at first", "draw 2:P0,01", "draw 2:P1,10", "position 0 1", "pair 0 0", "answers 0 -> false",
                "position 0 1 -> 1", "answers 3 -> true", "isAlike -> true", "pair 0 1 -> 1", "answers 3 -> true");
        edge("a world that is changed is what a position asks about", "draw 1:", "draw 1:", "position 0 1", "pair 0 0",
                "isAlike -> true", "marked 1 0 P -> true", "isAlike -> false", "tells 0 -> !Px", "answers 0 -> false",
                "marked 1 0 P -> false", "answers 3 -> true");
    }
}
