import java.lang.reflect.InvocationTargetException;
import java.lang.reflect.Method;
import java.util.Arrays;
import java.util.HashMap;
import java.util.Map;

/**
 * One object under test, for one sentence of the document: it is asked by the names of its methods, so
 * that calls can stand in tables, and each answer that is not due is told with the sentence.
 */
final class Trial {
    static final int LEAST = Integer.MIN_VALUE;
    static final int MOST = Integer.MAX_VALUE;
    /** Behind so many calls the document leaves free what is answered. */
    static final int MOST_CALLS = 512;
    private static final Map<String, Method> METHODS = methods();
    private static int wrong = 0;
    private static int sentences = 0;

    private final String sentence;
    private final NineMinutesMore program = new NineMinutesMore();
    private int calls = 0;

    Trial(String sentence) {
        this.sentence = sentence;
        sentences++;
    }

    /** An object that has been told a room, which must be taken. */
    Trial(String sentence, String room) {
        this(sentence);
        tell(room);
    }

    private static Map<String, Method> methods() {
        Map<String, Method> all = new HashMap<>();
        for (Method m : NineMinutesMore.class.getMethods()) {
            all.put(m.getName(), m);
        }
        return all;
    }

    int ask(String name, int... a) {
        Object[] given = new Object[a.length];
        for (int i = 0; i < a.length; i++) {
            given[i] = a[i];
        }
        calls++;
        if (calls > MOST_CALLS) {
            fault("this test asks more than " + MOST_CALLS + " calls of one object");
        }
        try {
            return (Integer) METHODS.get(name).invoke(program, given);
        } catch (InvocationTargetException e) {
            fault(name + Arrays.toString(a) + " threw " + e.getCause());
        } catch (IllegalAccessException | IllegalArgumentException e) {
            fault(name + Arrays.toString(a) + " can't be called: " + e);
        }
        return LEAST;
    }

    Trial due(int want, String name, int... a) {
        int got = ask(name, a);
        if (got != want) {
            fault(name + Arrays.toString(a) + " answered " + got + ", due is " + want);
        }
        return this;
    }

    /** The letters come, each taken. */
    Trial letters(String text) {
        int had = ask("count", 9);
        for (int i = 0; i < text.length(); i++) {
            due(had + i + 1, "letter", text.charAt(i));
        }
        return this;
    }

    Trial room(int want, String text) {
        letters(text);
        int got = ask("room");
        if (got != want) {
            fault("room of \"" + text + "\" answered " + got + ", due is " + want);
        }
        return this;
    }

    /** A room without fault. */
    Trial tell(String text) {
        int statements = 0;
        for (int i = 0; i < text.length(); i++) {
            statements += text.charAt(i) == ';' ? 1 : 0;
        }
        return room(statements, text);
    }

    Trial nights(int many) {
        for (int i = 0; i < many; i++) {
            ask("night");
        }
        return this;
    }

    Trial row(int... numbers) {
        int had = ask("count", 8);
        for (int i = 0; i < numbers.length; i++) {
            due(had + i + 1, "row", numbers[i]);
        }
        return this;
    }

    int calls() {
        return calls;
    }

    void fault(String what) {
        wrong++;
        System.out.println(sentence + ": " + what);
    }

    static void end(String name) {
        System.out.println(name + ": " + (wrong == 0 ? sentences + " cases are as due" : wrong + " faults"));
        if (wrong != 0) {
            System.exit(1);
        }
    }
}
