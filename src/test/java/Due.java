import java.lang.reflect.InvocationTargetException;
import java.lang.reflect.Method;
import java.nio.charset.StandardCharsets;
import java.util.ArrayList;
import java.util.HashMap;
import java.util.List;
import java.util.Map;
import java.util.regex.Matcher;
import java.util.regex.Pattern;

/**
 * Plays runs of calls on new objects and tells each call whose answer is not the one that is due. A line of a play is a
 * call with its due answer, "run(5) = 1"; a * among the arguments stands for 0, 1, 2, .. , one for each answer that is
 * due. A / between answers is for the reader alone. Lines with a text feed and load it; in a text a ~ is a byte 10,
 * $3[x=1;$] stands for x=1;x=1;x=1; and a ^ (no byte of the text) marks a place. The lines that are no calls of the face:
 *   text `..`    what load() answers
 *   bad `..`     a text with a fault: the FAULT, and its place (which is not told in the line if a ^ marks it)
 *   fails `..`   a run of member 0: the KIND of failure that ended its first thread, NONE if none did
 *   bars `..`    what load() answers; a ^ marks the node that BARS, of each member that has no FORMULA
 *   outside f(0..2, 0..7)  f with each argument just below, just above and far from what it may be: the one answer
 *   fill(n)      feeds n times: what the last feed() answers
 *   nodes(m)     of each node KIND, place, DEPTH
 *   ways(m)      of each way its six answers
 *   weights(m)   of each way its WEIGHT and whether it has a PROBE
 *   paths(m)     of each PATH its length and its ways
 *   turns(n)     n steps one by one: who has the turn behind each
 *   trees(n)     of the first n nodes of the TREE all seven answers
 *   looks(n)     of the first n LOOKS arrays and BYTES
 *   kinds(n)     for each argument below n a run of member 0: the KIND of failure that ended it
 *   rows(k)      of each row of a keeper value and count
 *   formulas()   of each member whether it has a FORMULA, what BARS, terms, and these
 */
final class Due {
    private static final Map<String, Method> FACE = new HashMap<>();
    private static int wrong = 0;
    private static int plays = 0;

    static {
        for (Method method : MeasuringHouse.class.getDeclaredMethods()) {
            if (java.lang.reflect.Modifier.isPublic(method.getModifiers())) {
                FACE.put(method.getName(), method);
            }
        }
    }

    private final MeasuringHouse house = new MeasuringHouse();

    private Due() {
    }

    static void play(String title, String lines) {
        Due due = new Due();
        plays++;
        for (String line : lines.split("\n")) {
            String row = line.trim();
            if (!row.isEmpty()) {
                due.playLine(title, row);
            }
        }
    }

    static void is(String what, long got, long want) {
        if (got != want) {
            tell(what, String.valueOf(got), String.valueOf(want));
        }
    }

    private static void tell(String what, String got, String want) {
        wrong++;
        System.out.println(what + " answered " + got + ", due is " + want);
    }

    /** Tells how it went; ends with 1 if an answer was wrong. */
    static void end(String name) {
        System.out.println(name + ": " + plays + " plays, " + wrong + " answers are not as due");
        if (wrong != 0) {
            System.exit(1);
        }
    }

    private void playLine(String title, String row) {
        int cut = row.lastIndexOf(" = ");
        String call = row.substring(0, cut).trim();
        List<Long> want = new ArrayList<>();
        for (String number : row.substring(cut + 3).trim().split("[ /]+")) {
            if (!number.isEmpty()) {
                want.add(Long.parseLong(number));
            }
        }
        if (call.contains("`")) {
            call = spelledOut(call);
            want.addAll(marks(call));
        }
        List<Long> got = answers(call, want.size());
        if (!got.equals(want)) {
            tell(title + ": " + call, got.toString(), want.toString());
        }
    }

    private static String spelledOut(String call) {
        Matcher again = Pattern.compile("\\$(\\d+)\\[([^$]*)\\$\\]").matcher(call);
        return again.replaceAll(all -> Matcher.quoteReplacement(all.group(2).repeat(Integer.parseInt(all.group(1)))));
    }

    /** The places that a ^ marks, counted without these. */
    private static List<Long> marks(String call) {
        List<Long> marks = new ArrayList<>();
        int first = call.indexOf('`') + 1;
        for (int at = call.indexOf('^'); at >= 0; at = call.indexOf('^', at + 1)) {
            marks.add((long) at - first - marks.size());
        }
        return marks;
    }

    private List<Long> answers(String call, int due) {
        if (call.contains("`")) {
            String text = call.substring(call.indexOf('`') + 1, call.lastIndexOf('`'));
            return textAnswers(call, load(house, text.replace('~', '\n').replace("^", "")));
        }
        List<Long> got = new ArrayList<>();
        if (call.startsWith("outside ")) {
            add(got, outside(call.substring(8)));
            return got;
        }
        String name = call.substring(0, call.indexOf('('));
        String[] arguments = call.substring(call.indexOf('(') + 1, call.lastIndexOf(')')).split(",");
        if (!FACE.containsKey(name)) {
            summary(name, arguments[0].trim().isEmpty() ? 0 : Integer.parseInt(arguments[0].trim()), got);
            return got;
        }
        int times = call.contains("*") ? due : 1;
        for (int i = 0; i < times; i++) {
            got.add(answer(name, arguments, i));
        }
        return got;
    }

    private List<Long> textAnswers(String call, long members) {
        List<Long> got = new ArrayList<>();
        if (call.startsWith("bad")) {
            add(got, members == MeasuringHouse.NONE ? house.fault(0) : 0, house.fault(1));
        } else if (call.startsWith("fails")) {
            house.begin(0, 0, 0, 0);
            house.run(20000);
            add(got, house.thread(0, 7));
        } else {
            add(got, members);
            for (int m = 0; m < members && call.startsWith("bars"); m++) {
                if (house.bound(m, -1, 0) == 0) {
                    add(got, house.bound(m, -1, 1));
                }
            }
        }
        return got;
    }

    /** The answer of a call with one argument outside of its bounds, the others being at their first. */
    private long outside(String call) {
        String name = call.substring(0, call.indexOf('('));
        String[] bounds = call.substring(call.indexOf('(') + 1, call.lastIndexOf(')')).split(",");
        String[] arguments = new String[bounds.length];
        long answer = Long.MIN_VALUE;
        for (int i = 0; i < bounds.length; i++) {
            long first = Long.parseLong(bounds[i].trim().split("\\.\\.")[0]);
            long last = Long.parseLong(bounds[i].trim().split("\\.\\.")[1]);
            for (long v : new long[] {first - 1, last + 1, Integer.MIN_VALUE, Integer.MAX_VALUE}) {
                if ((v < first || v > last) && v == (int) v) {
                    for (int k = 0; k < bounds.length; k++) {
                        arguments[k] = k == i ? String.valueOf(v) : bounds[k].trim().split("\\.\\.")[0];
                    }
                    long got = answer(name, arguments, 0);
                    is(name + String.join(",", arguments), got, answer == Long.MIN_VALUE ? got : answer);
                    answer = got;
                }
            }
        }
        return answer;
    }

    private long answer(String name, String[] arguments, int star) {
        Method method = FACE.get(name);
        Object[] values = new Object[method.getParameterCount()];
        for (int i = 0; i < values.length; i++) {
            String argument = arguments[i].trim();
            values[i] = argument.equals("*") ? star : Integer.parseInt(argument);
        }
        try {
            return ((Number) method.invoke(house, values)).longValue();
        } catch (InvocationTargetException | IllegalAccessException e) {
            throw new IllegalStateException(name + " threw", e);
        }
    }

    static long load(MeasuringHouse house, String text) {
        byte[] bytes = text.getBytes(StandardCharsets.ISO_8859_1);
        for (int at = 0; at < bytes.length; at += 20) {
            house.feed(four(bytes, at), four(bytes, at + 4), four(bytes, at + 8), four(bytes, at + 12),
                four(bytes, at + 16));
        }
        return house.load(bytes.length);
    }

    private static int four(byte[] bytes, int at) {
        int value = 0;
        for (int i = 0; i < 4; i++) {
            value = value << 8 | (at + i < bytes.length ? bytes[at + i] & 255 : 0);
        }
        return value;
    }

    private void add(List<Long> got, long... values) {
        for (long value : values) {
            got.add(value);
        }
    }

    private void summary(String name, int n, List<Long> got) {
        switch (name) {
            case "fill":
                int fed = 0;
                for (int i = 0; i < n; i++) {
                    fed = house.feed(0, 0, 0, 0, 0);
                }
                add(got, fed);
                break;
            case "nodes":
                for (int i = 0; i < house.member(n, 3); i++) {
                    add(got, house.node(n, i, 0), house.node(n, i, 1), house.node(n, i, 2));
                }
                break;
            case "ways":
                for (int i = 0; i < house.member(n, 4); i++) {
                    add(got, house.way(n, i, 0), house.way(n, i, 1), house.way(n, i, 2), house.way(n, i, 3),
                        house.way(n, i, 4), house.way(n, i, 5));
                }
                break;
            case "weights":
                for (int i = 0; i < house.member(n, 4); i++) {
                    add(got, house.way(n, i, 4), house.way(n, i, 5));
                }
                break;
            case "paths":
                for (int i = 0; i < house.member(n, 6); i++) {
                    add(got, house.path(n, i, -1));
                    for (int k = 0; k < house.path(n, i, -1); k++) {
                        add(got, house.path(n, i, k));
                    }
                }
                break;
            case "turns":
                for (int i = 0; i < n; i++) {
                    house.run(1);
                    add(got, house.state(2));
                }
                break;
            default:
                moreSummary(name, n, got);
        }
    }

    private void moreSummary(String name, int n, List<Long> got) {
        switch (name) {
            case "trees":
                for (int i = 0; i < n; i++) {
                    for (int what = 0; what < 7; what++) {
                        add(got, house.tree(i, what));
                    }
                }
                break;
            case "looks":
                for (int i = 0; i < n; i++) {
                    add(got, house.seen(i, 1), house.seen(i, 2));
                }
                break;
            case "kinds":
                for (int i = 0; i < n; i++) {
                    house.argument(0, i);
                    house.begin(0, 0, 0, 0);
                    house.run(20000);
                    add(got, house.thread(0, 7));
                }
                break;
            case "rows":
                for (int i = 0; i < house.kept(n, -1, 2); i++) {
                    add(got, house.kept(n, i, 0), house.kept(n, i, 1));
                }
                break;
            case "formulas":
                for (int m = 0; house.member(m, 0) != MeasuringHouse.NONE; m++) {
                    add(got, house.bound(m, -1, 0), house.bound(m, -1, 1), house.bound(m, -1, 2));
                    for (int i = 0; i < house.bound(m, -1, 2); i++) {
                        for (int what = 0; what < 5; what++) {
                            add(got, house.bound(m, i, what));
                        }
                    }
                }
                break;
            default:
                throw new IllegalStateException("no such line: " + name);
        }
    }
}
