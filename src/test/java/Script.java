import java.util.ArrayList;
import java.util.List;
import java.util.regex.Matcher;
import java.util.regex.Pattern;

/**
 * A run of calls on a new object, told as text: "scans(0)=0 steps(0, 21)=BAD ..".
 * Behind a refused call all must look as ahead of it. What cannot be looked at (the past, the images) is
 * told by a twin that has all calls but the refused ones: at the end both must undo and go back alike.
 */
final class Script {
    private static final Pattern CALL = Pattern.compile("\\s*(\\w+)\\(([^)]*)\\)\\s*=\\s*(-?\\w+)\\s*");

    private final String name;
    private final LentViews x = new LentViews();
    private final LentViews twin = new LentViews();

    private Script(String name) {
        this.name = name;
    }

    static void run(String name, String... calls) {
        Script script = new Script(name);
        for (String part : calls) {
            script.playAll(part);
        }
        script.compareTwins();
    }

    private void playAll(String text) {
        Matcher matcher = CALL.matcher(text);
        int at = 0;
        while (at < text.length()) {
            if (!matcher.find(at) || matcher.start() != at) {
                throw new IllegalArgumentException(name + ": no call at: " + text.substring(at));
            }
            playOne(matcher.group(1), matcher.group(2), matcher.group(3));
            at = matcher.end();
        }
    }

    private void playOne(String method, String numbers, String answer) {
        int[] arguments = numbers.isBlank() ? new int[0] : numbersOf(numbers);
        String told = name + ": " + method + "(" + numbers + ")";
        boolean refusal = answer.equals("BAD") || answer.equals("STATE") || answer.equals("FULL");
        if (!refusal) {
            Due.is(told, call(x, method, arguments), numberOf(answer));
            call(twin, method, arguments);
            return;
        }
        List<Integer> ahead = look(x);
        Due.is(told, call(x, method, arguments), numberOf(answer));
        Due.isTrue(told + " changes nothing", look(x).equals(ahead));
    }

    static int[] numbersOf(String text) {
        String[] parts = text.split(",");
        int[] numbers = new int[parts.length];
        for (int i = 0; i < parts.length; i++) {
            numbers[i] = numberOf(parts[i].trim());
        }
        return numbers;
    }

    static int numberOf(String text) {
        switch (text) {
            case "BAD": return -1;
            case "STATE": return -2;
            case "FULL": return -3;
            case "NONE": return -9;
            case "LEAST": return Integer.MIN_VALUE;
            case "MOST": return Integer.MAX_VALUE;
            default: return Integer.parseInt(text);
        }
    }

    static int call(LentViews on, String method, int... arguments) {
        Class<?>[] types = new Class<?>[arguments.length];
        Object[] given = new Object[arguments.length];
        for (int i = 0; i < arguments.length; i++) {
            types[i] = int.class;
            given[i] = arguments[i];
        }
        try {
            return (Integer) LentViews.class.getMethod(method, types).invoke(on, given);
        } catch (ReflectiveOperationException fault) {
            throw new IllegalStateException(method, fault);
        }
    }

    private void compareTwins() {
        compareToTheEnd(name + ": refusals change nothing", x, twin);
    }

    /** Also by what can be undone and by the images: both objects are used up by it. */
    static void compareToTheEnd(String name, LentViews one, LentViews other) {
        for (int undone = 0; undone <= 6; undone++) {
            Due.isTrue(name + " (seen behind " + undone + " undo())", look(one).equals(look(other)));
            Due.is(name + " (undo() of both)", one.undo(), other.undo());
        }
        for (int image = 0; image < 2; image++) {
            Due.is(name + " (back() of both)", one.back(image), other.back(image));
            Due.isTrue(name + " (seen behind back())", look(one).equals(look(other)));
        }
        Due.is(name + " (forget() of both)", one.forget(), other.forget());
    }

    /** All that the calls of the face tell without changing anything. */
    static List<Integer> look(LentViews x) {
        List<Integer> all = new ArrayList<>();
        for (int what = 0; what <= 10; what++) {
            all.add(x.count(what));
        }
        for (int p = 0; p < 4; p++) {
            for (int what = 0; what <= 8; what++) {
                all.add(x.cell(p, what));
                all.add(x.writer(p, what));
                all.add(x.read(p, what / 2, what % 2));
            }
            all.add(x.lone(p));
        }
        for (int i = 0; i < 24; i++) {
            for (int what = 0; what <= 10; what++) {
                all.add(x.photo(i, what));
            }
        }
        all.add(x.byTurns());
        all.add(x.which());
        all.add(x.ask());
        return all;
    }
}
