import java.lang.reflect.InvocationTargetException;
import java.lang.reflect.Method;

/** Long runs of calls, the same each time: SnowSites and Model have to answer alike. */
public final class ModelTests {
    private static final int RUNS = 1500;
    private static final int CALLS = 512;
    private static final int MOST_PRINTED = 20;
    private static final String[] CHANGES = {"addSnow", "press", "stack", "stack", "stack", "stack", "setWall", "addTool",
        "carve", "carve", "carve", "recycle", "hour", "hour", "ballot", "ballot", "clearBallots", "undo", "runOrders",
        "clearOrders", "type", "digest"};
    private static final String[] QUESTIONS = {"block", "site", "tool", "whole", "rounds", "votes", "winner", "reason",
        "volumeIn", "goneIn", "bestWall", "minutesFor", "digest"};
    private static final int[] ODD = {Integer.MIN_VALUE, -2, -1, 0, 1, 2, 3, 5, 6, 7, 8, 9, 15, 16, 20, 21, 48, 49, 50, 51,
        100, 101, 127, 128, 9999, 10000, Integer.MAX_VALUE};
    private static final String[] PIECES = {"snow", "press", "stack", "tool", "carve", "wall", "sun", "cloud", "again",
        "snw", "againn", " ", "  ", ";", "0", "7", "12", "0003", "12345", "x", "Z", "\t", "\u007f"};

    private static long seed = 1;
    private static int wrong = 0;
    private static int calls = 0;

    private ModelTests() {
    }

    public static void main(String[] args) throws ReflectiveOperationException {
        for (int run = 0; run < RUNS; run++) {
            seed = 1000003L * run + 17;
            play(run);
        }
        System.out.println(calls + " calls were compared with the model, " + wrong + " answers were not alike");
        if (wrong > 0) {
            System.exit(1);
        }
    }

    private static int below(int bound) {
        seed = seed * 6364136223846793005L + 1442695040888963407L;
        return (int) Math.floorMod(seed >>> 33, (long) bound);
    }

    private static void play(int run) throws ReflectiveOperationException {
        SnowSites place = new SnowSites();
        Model model = new Model();
        int done = run % 3 == 0 ? 0 : prepare(run, place, model);
        while (done < CALLS) {
            if (below(run % 5 == 0 ? 12 : 60) == 0 && done + 160 < CALLS) {
                done += typeOrders(run, place, model);
            } else {
                String[] names = below(2) == 0 ? CHANGES : QUESTIONS;
                compare(run, place, model, names[below(names.length)]);
                done++;
            }
        }
    }

    private static int prepare(int run, SnowSites place, Model model) throws ReflectiveOperationException {
        int done = 0;
        for (int kind = 0; kind < 3; kind++) {
            call(run, place, model, "addSnow", 3000);
            call(run, place, model, "press", kind, 30);
            done += 2;
        }
        for (int i = below(40); i > 0; i--) {
            call(run, place, model, "stack", below(8), below(3));
            done++;
        }
        call(run, place, model, "addTool", 20);
        return done + 1;
    }

    private static int typeOrders(int run, SnowSites place, Model model) throws ReflectiveOperationException {
        String text = below(2) == 0 ? goodText() : mixedText();
        call(run, place, model, "clearOrders");
        for (int i = 0; i < text.length(); i++) {
            call(run, place, model, "type", (int) text.charAt(i));
        }
        call(run, place, model, "runOrders");
        call(run, place, model, "digest");
        return text.length() + 3;
    }

    private static String goodText() {
        StringBuilder text = new StringBuilder();
        String[] orders = {"snow 700;", "press " + below(3) + " " + below(6) + ";", "stack " + below(8) + " " + below(3) + " ;",
            "tool " + below(21) + ";", "carve " + below(2) + " " + below(8) + " " + below(3) + " " + below(101) + ";",
            "wall " + below(9) + ";", "sun " + below(26) + ";", "cloud " + below(26) + ";", " again ; "};
        for (int i = 1 + below(9); i > 0; i--) {
            text.append(orders[below(orders.length)]);
        }
        if (below(4) == 0) {
            text.setCharAt(below(text.length()), PIECES[below(PIECES.length)].charAt(0));
        }
        return text.substring(0, Math.min(text.length(), below(6) == 0 ? below(150) : 150));
    }

    private static String mixedText() {
        StringBuilder text = new StringBuilder();
        for (int i = below(30); i > 0; i--) {
            text.append(PIECES[below(PIECES.length)]);
        }
        return text.substring(0, Math.min(text.length(), 150));
    }

    private static void compare(int run, SnowSites place, Model model, String name) throws ReflectiveOperationException {
        Method method = find(SnowSites.class, name);
        Class<?>[] kinds = method.getParameterTypes();
        Object[] arguments = new Object[kinds.length];
        boolean wild = below(15) == 0;
        for (int i = 0; i < kinds.length; i++) {
            if (kinds[i] == boolean.class) {
                arguments[i] = below(3) == 0;
            } else {
                arguments[i] = wild ? ODD[below(ODD.length)] : usual(name, i);
            }
        }
        call(run, place, model, name, arguments);
    }

    private static int usual(String name, int place) {
        switch (name) {
            case "addSnow": return 1 + below(4000);
            case "press": return place == 0 ? below(3) : 1 + below(8);
            case "stack": return place == 0 ? below(8) : below(3);
            case "addTool": return 1 + below(20);
            case "carve":
            case "reason": return new int[] {below(2), below(8), below(3), 1 + below(100)}[place];
            case "ballot": return below(9) - (place == 0 ? 0 : 1);
            case "block": return new int[] {below(8), below(6), below(3)}[place];
            case "site": return place == 0 ? below(8) : below(5);
            case "tool": return below(3);
            case "whole": return below(16);
            case "votes": return below(8);
            case "volumeIn": return place == 0 ? below(8) : below(49);
            case "minutesFor": return place == 0 ? below(3) : below(10000);
            case "type": return below(128);
            default: return below(8);
        }
    }

    private static Method find(Class<?> owner, String name) {
        for (Method method : owner.getDeclaredMethods()) {
            if (method.getName().equals(name)) {
                return method;
            }
        }
        throw new IllegalStateException("no method " + name);
    }

    private static void call(int run, SnowSites place, Model model, String name, Object... arguments)
            throws ReflectiveOperationException {
        String got = answer(place, name, arguments);
        String want = answer(model, name, arguments);
        calls++;
        if (!got.equals(want)) {
            wrong++;
            if (wrong <= MOST_PRINTED) {
                System.out.println("run " + run + ": " + name + java.util.Arrays.toString(arguments)
                    + " answered " + got + ", the model " + want);
            }
        }
    }

    private static String answer(Object object, String name, Object... arguments) throws ReflectiveOperationException {
        try {
            return String.valueOf(find(object.getClass(), name).invoke(object, arguments));
        } catch (InvocationTargetException e) {
            return e.getCause().getClass().getName();
        }
    }
}
