import java.util.ArrayList;
import java.util.Arrays;
import java.util.List;
import java.util.regex.Matcher;
import java.util.regex.Pattern;

/**
 * A run of calls written as text, one to a line or several with ; between them:
 *
 * <pre>
 * new                        another object (a run begins with one)
 * pass(0, 1) = 1             a call and the answer that is due; without = any answer will do
 * 15 * person(0, 1, 1) = 0 ..   so often, the answers counting up (or all alike, without ..)
 * at(*, 3) = 2 0 1           at(0, 3) = 2; at(1, 3) = 0; at(2, 3) = 1
 * ! ring(2) = -2             refused: nothing that can be seen of the object is changed by it
 * feed "0&lt;w" = 3          the bytes of a text
 * figure "0&lt;w" = 0        the bytes of a text, then figure()
 * !text figure "x" = -10     refused: nothing but THE TEXT is changed, which is empty then
 * ring of 4 with 100         4 DANCERS stand, REACH and PACE 1, 2 .., RIBBONS of COLOURS 0, 1 .. and that LENGTH
 * dance of 4 with 100        the same, and begin()
 * order 0 tells 2 0 1        TAPE 0 becomes a row of these bytes
 * # a word to the reader; numbers may be written MIN, MAX and 0x77
 * </pre>
 */
final class Run {
    private static final Pattern STATEMENT = Pattern.compile(
        "(!text |! )?(?:(\\d+) \\* )?(\\w+)(?:\\(([^()]*)\\)| \"([^\"]*)\")(?: = (.+))?");
    private static final Pattern ORDER = Pattern.compile("order (\\d) tells ([-\\d ]+)");
    private static final Pattern PEOPLE = Pattern.compile("(ring|dance) of (\\d) with (\\d+)");

    /** What a call may change: anything, nothing, nothing but THE TEXT. */
    enum Change { ANYTHING, NOTHING, TEXT }

    record Call(String name, int[] args, Integer due, Change change) {
        @Override
        public String toString() {
            String all = Arrays.toString(args);
            return name + "(" + all.substring(1, all.length() - 1) + ")";
        }
    }

    /** The calls on each object in turn. */
    final List<List<Call>> objects = new ArrayList<>();

    Run(String text) {
        objects.add(new ArrayList<>());
        for (String line : text.split("\n")) {
            for (String statement : line.replaceFirst("#.*", "").split(";")) {
                if (!statement.isBlank()) {
                    read(statement.strip());
                }
            }
        }
    }

    private void add(String name, int[] args, Integer due, Change change) {
        objects.get(objects.size() - 1).add(new Call(name, args, due, change));
    }

    private void read(String statement) {
        Matcher people = PEOPLE.matcher(statement);
        Matcher order = ORDER.matcher(statement);
        Matcher call = STATEMENT.matcher(statement);
        if (statement.equals("new")) {
            objects.add(new ArrayList<>());
        } else if (people.matches()) {
            stand(Integer.parseInt(people.group(2)), Integer.parseInt(people.group(3)));
            if (people.group(1).equals("dance")) {
                add("begin", new int[0], null, Change.ANYTHING);
            }
        } else if (order.matches()) {
            write(Integer.parseInt(order.group(1)), order.group(2).split(" +"));
        } else if (call.matches()) {
            Change change = call.group(1) == null ? Change.ANYTHING
                : call.group(1).equals("! ") ? Change.NOTHING : Change.TEXT;
            int times = call.group(2) == null ? 1 : Integer.parseInt(call.group(2));
            if (call.group(5) != null) {
                readText(call.group(3), call.group(5), call.group(6), change);
            } else {
                readCall(call.group(3), call.group(4), call.group(6), change, times);
            }
        } else {
            throw new IllegalArgumentException("no statement: " + statement);
        }
    }

    private void stand(int n, int length) {
        add("ring", new int[] {n}, null, Change.ANYTHING);
        for (int i = 0; i < n; i++) {
            add("person", new int[] {0, 1 + i, 1 + i}, null, Change.ANYTHING);
            add("stand", new int[] {i, i}, null, Change.ANYTHING);
            add("ribbon", new int[] {i, Math.min(i, 7), length}, null, Change.ANYTHING);
        }
    }

    private void write(int tape, String[] items) {
        add("tape", new int[] {tape, 0, items.length}, 1, Change.ANYTHING);
        for (int i = 0; i < items.length; i++) {
            add("item", new int[] {tape, i, Integer.parseInt(items[i])}, 1, Change.ANYTHING);
        }
    }

    private void readText(String name, String text, String due, Change change) {
        Integer answer = due == null ? null : Integer.valueOf(due.strip());
        for (int from = 0; from < text.length(); from += 4) {
            int bytes = 0;
            int n = Math.min(4, text.length() - from);
            for (int j = 0; j < n; j++) {
                bytes = bytes << 8 | text.charAt(from + j) & 255;
            }
            boolean isLast = name.equals("feed") && from + n == text.length();
            add("feed", new int[] {bytes, n}, isLast ? answer : null, Change.ANYTHING);
        }
        if (name.equals("figure")) {
            add("figure", new int[0], answer, change);
        }
    }

    private void readCall(String name, String inside, String due, Change change, int times) {
        String[] args = inside.isBlank() ? new String[0] : inside.split(",");
        String[] dues = due == null ? new String[0] : due.strip().split(" +");
        if (inside.contains("*")) {
            for (int i = 0; i < dues.length; i++) {
                add(name, numbers(args, i), number(dues[i]), change);
            }
            return;
        }
        boolean up = dues.length == 2 && dues[1].equals("..");
        if (dues.length > 1 && !up) {
            throw new IllegalArgumentException("too many answers: " + due);
        }
        for (int i = 0; i < times; i++) {
            Integer answer = dues.length == 0 ? null : Integer.valueOf(number(dues[0]) + (up ? i : 0));
            add(name, numbers(args, 0), answer, change);
        }
    }

    private static int[] numbers(String[] words, int star) {
        int[] numbers = new int[words.length];
        for (int i = 0; i < words.length; i++) {
            numbers[i] = words[i].strip().equals("*") ? star : number(words[i].strip());
        }
        return numbers;
    }

    private static int number(String word) {
        switch (word) {
            case "MIN":
                return Integer.MIN_VALUE;
            case "MAX":
                return Integer.MAX_VALUE;
            default:
                return word.startsWith("0x") ? Integer.parseUnsignedInt(word.substring(2), 16) : Integer.parseInt(word);
        }
    }
}
