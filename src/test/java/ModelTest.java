import java.lang.reflect.InvocationTargetException;
import java.lang.reflect.Method;
import java.util.HashMap;
import java.util.Map;
import java.util.Random;

/**
 * Random runs of calls on fresh objects, answered by the program and by the Model: every answer must
 * be the same, and none may be thrown instead. The seed is fixed, so a run is found again by its number.
 */
public final class ModelTest {
    private static final int RUNS = 400;
    private static final int CALLS = 512;
    private static final String[] ASKED = {"sleeper", "clock", "task", "set", "every", "firm", "bus", "tired",
        "night", "depth", "up", "presses", "slept", "done", "value", "cost", "evening", "often", "hears", "silent",
        "bet", "leans", "back", "moment", "week", "row", "judge", "firms", "clear", "lots", "image", "on", "count"};
    private static final int[] EDGES = {Integer.MIN_VALUE, Integer.MIN_VALUE + 1, -301, -2, -1, 0, 1, 2, 3, 4, 5, 6,
        7, 8, 9, 10, 16, 17, 19, 20, 21, 29, 30, 31, 60, 99, 100, 255, 256, 299, 300, 301, 1 << 30,
        Integer.MAX_VALUE - 1, Integer.MAX_VALUE};

    private final Random random;
    private final NineMinutesMore program = new NineMinutesMore();
    private final Model model = new Model();
    private final StringBuilder log = new StringBuilder();
    private int calls = 0;
    private static final Map<String, Method> METHODS = new HashMap<>();
    private static final Map<String, Integer> ANSWERS = new HashMap<>();

    private ModelTest(int run) {
        random = new Random(run * 7919L + 17);
    }

    public static void main(String[] args) throws Exception {
        for (Method m : NineMinutesMore.class.getDeclaredMethods()) {
            METHODS.put(m.getName(), m);
        }
        for (int run = 0; run < RUNS; run++) {
            ModelTest t = new ModelTest(run);
            if (!t.goOn()) {
                System.out.println("run " + run + ":" + t.log);
                System.exit(1);
            }
        }
        for (String name : ASKED) {
            if (!ANSWERS.containsKey(name)) {
                System.out.println("never answered but by a refusal: " + name);
                System.exit(1);
            }
        }
        System.out.println("ModelTest: all answers are the model's");
    }

    private boolean goOn() throws Exception {
        if (random.nextInt(10) > 0 && !tell(aFirstRoom())) {
            return false;
        }
        while (calls < CALLS) {
            int lot = random.nextInt(100);
            boolean fine;
            if (lot < 6) {
                fine = tell(aRoom());
            } else if (lot < 14) {
                fine = rowAsItIs();
            } else {
                String name = ASKED[random.nextInt(ASKED.length)];
                fine = ask(name, arguments(name));
            }
            if (!fine) {
                return false;
            }
        }
        return true;
    }

    private boolean ask(String name, int[] a) throws Exception {
        if (calls >= CALLS) {
            return true;
        }
        calls++;
        Method m = METHODS.get(name);
        Object[] given = new Object[m.getParameterCount()];
        log.append(' ').append(name).append('(');
        for (int i = 0; i < given.length; i++) {
            given[i] = a[i];
            log.append(i == 0 ? "" : ",").append(a[i]);
        }
        log.append(')');
        int due = model.call(name, a);
        int got;
        try {
            got = (Integer) m.invoke(program, given);
        } catch (InvocationTargetException e) {
            log.append(" threw ").append(e.getCause());
            return false;
        }
        log.append('=').append(got);
        if (got != due) {
            log.append(", due is ").append(due);
        }
        if (got >= 0 && got < 1000000000) {
            ANSWERS.merge(name, 1, Integer::sum);
        }
        return got == due;
    }

    private boolean tell(String text) throws Exception {
        for (int i = 0; i < text.length(); i++) {
            if (!ask("letter", new int[] {text.charAt(i)})) {
                return false;
            }
        }
        return ask("room", new int[0]);
    }

    /** A row of what he will really do, so that it is often as judged, and the questions about it. */
    private boolean rowAsItIs() throws Exception {
        int sleeper = random.nextInt(4);
        boolean fine = ask("image", new int[0]) && ask("clear", new int[0]);
        int n = random.nextInt(9);
        for (int i = 0; i < n && fine; i++) {
            int up = model.upOf(sleeper);
            fine = ask("up", new int[] {sleeper})
                && ask("row", new int[] {random.nextInt(12) == 0 ? random.nextInt(301) : up});
            if (sleeper == 0 && random.nextInt(2) == 0) {
                fine = fine && ask("night", new int[0]);
            }
        }
        return fine && ask("on", new int[0]) && ask("judge", new int[] {sleeper})
            && ask("firms", new int[] {sleeper, 0}) && ask("firms", new int[] {sleeper, 1})
            && ask("count", new int[] {8});
    }

    private int[] arguments(String name) {
        int[] a = {random.nextInt(4), random.nextInt(300), random.nextInt(30) + 1};
        switch (name) {
            case "sleeper": case "clock": case "task": case "done": case "evening": case "firms":
                a[1] = random.nextInt(5);
                break;
            case "every": case "often":
                a[1] = random.nextInt(10);
                break;
            case "firm": case "tired": case "bus": case "row": case "cost":
                a[0] = name.equals("tired") ? random.nextInt(10) : random.nextInt(name.equals("firm") ? 100 : 300);
                break;
            case "leans": case "back":
                a[1] = random.nextInt(3) == 0 ? 300 : model.upOf(a[0]) + random.nextInt(7) - 3;
                break;
            case "week":
                a[1] = random.nextInt(7);
                a[2] = random.nextInt(3);
                break;
            case "lots":
                a[1] = random.nextInt(30) + 1;
                a[2] = random.nextInt();
                break;
            case "count":
                a[0] = random.nextInt(19) - 1;
                break;
            default:
                break;
        }
        if (name.equals("done")) {
            a[0] = random.nextInt(301);
        }
        for (int i = 0; i < a.length; i++) {
            if (random.nextInt(14) == 0) {
                a[i] = EDGES[random.nextInt(EDGES.length)];
            }
        }
        return a;
    }

    /** Two sleepers and three clocks between them, with no fault, so that most runs have mornings to ask about. */
    private String aFirstRoom() {
        StringBuilder b = new StringBuilder();
        statement(b, 's', false);
        statement(b, 's', false);
        for (int i = 0; i < 3; i++) {
            statement(b, 'c', false);
        }
        statement(b, "tbf".charAt(random.nextInt(3)), false);
        return b.toString();
    }

    private String aRoom() {
        StringBuilder b = new StringBuilder();
        int many = random.nextInt(6) + 1;
        for (int i = 0; i < many; i++) {
            statement(b, "sssscccccctttbf".charAt(random.nextInt(15)), random.nextInt(25) == 0);
        }
        if (random.nextInt(5) == 0) {
            spoil(b);
        }
        return random.nextInt(60) == 0 ? "" : b.toString();
    }

    private void statement(StringBuilder b, char sort, boolean wild) {
        switch (sort) {
            case 's':
                b.append('s').append("sldobn".charAt(random.nextInt(6)));
                int round = 20 + random.nextInt(80) - (wild ? random.nextInt(25) : 0);
                b.append(round / 10).append(round % 10).append(',');
                b.append(random.nextInt(wild ? 30 : 21)).append(',').append(random.nextInt(wild ? 40 : 31));
                break;
            case 'c':
                b.append('c').append("cfprqw".charAt(random.nextInt(6)));
                b.append(random.nextInt(wild ? 10 : 2)).append(',').append(random.nextInt(wild ? 400 : 200));
                b.append(',').append(random.nextInt(20) + (wild ? 4 : 1)).append(',');
                b.append(random.nextInt(wild ? 40 : 31));
                break;
            case 't':
                b.append('t').append(random.nextInt(wild ? 70 : 30) + (wild ? 0 : 1)).append(',');
                b.append(random.nextInt(wild ? 10 : 40));
                break;
            case 'b':
                b.append('b').append(random.nextInt(wild ? 400 : 300));
                break;
            default:
                b.append('f').append(random.nextInt(10)).append(wild ? random.nextInt(10) : 0);
                break;
        }
        b.append(';');
    }

    private void spoil(StringBuilder b) {
        int place = random.nextInt(b.length());
        char sign = "sldobncfprqwt0123456789,;x".charAt(random.nextInt(26));
        switch (random.nextInt(4)) {
            case 0:
                b.setCharAt(place, sign);
                break;
            case 1:
                b.insert(place, sign);
                break;
            case 2:
                b.setLength(place);
                break;
            default:
                b.deleteCharAt(place);
                break;
        }
    }
}
