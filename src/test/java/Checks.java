import java.lang.reflect.InvocationTargetException;
import java.lang.reflect.Method;
import java.lang.reflect.Modifier;
import java.util.Arrays;
import java.util.Comparator;

/** What the tests share; no test itself. */
abstract class Checks {
    static final String INDEX = "IndexOutOfBoundsException";
    static final String ARGUMENT = "IllegalArgumentException";
    static final String STATE = "IllegalStateException";
    static final int NONE = StuntDesk.NONE;
    static final int[] PARTS = {1, 2, 4, 8, 16, 32};
    static final int[] COUNTING_DAYS = {20, 15, 10, 12, 30, 25};
    static final int[] BARRING_PARTS = {3, 28, 63, 48, 32, 35};

    static int wrong = 0;

    private static String place = "";
    private static int sentences = 0;
    private static int checksOfSentence = 0;

    interface Call {
        long answer();
    }

    interface Maker {
        StuntDesk make();
    }

    interface DeskCall {
        long answer(StuntDesk desk);
    }

    interface NumberCall {
        long answer(StuntDesk desk, int number);
    }

    // ---- tests that stand for sentences of DOC.md

    /** What is checked from here on stands for this sentence. */
    static void sentence(String promise, String quote) {
        requireChecks();
        place = promise + ", \"" + quote + "\": ";
        sentences++;
        checksOfSentence = 0;
    }

    private static void requireChecks() {
        if (!place.isEmpty() && checksOfSentence == 0) {
            wrong++;
            System.out.println(place + "nothing is checked");
        }
    }

    /** Runs each static method without parameters, so that no test is forgotten. */
    static void runAll(Class<?> tests) {
        Method[] methods = tests.getDeclaredMethods();
        Arrays.sort(methods, Comparator.comparing(Method::getName));
        for (Method method : methods) {
            if (Modifier.isStatic(method.getModifiers()) && method.getParameterCount() == 0 && !method.isSynthetic()
                    && method.getReturnType() == void.class) {
                runOne(method);
            }
        }
        System.out.println(wrong == 0 ? sentences + " sentences hold" : wrong + " checks fail");
        if (wrong != 0) {
            System.exit(1);
        }
    }

    private static void runOne(Method method) {
        int before = sentences;
        place = "";
        try {
            method.setAccessible(true);
            method.invoke(null);
            requireChecks();
        } catch (InvocationTargetException e) {
            wrong++;
            System.out.println(place + method.getName() + " ended with:");
            e.getCause().printStackTrace(System.out);
        } catch (IllegalAccessException e) {
            wrong++;
            System.out.println(method.getName() + " can't be run");
        }
        if (sentences == before) {
            wrong++;
            System.out.println(method.getName() + " names no sentence");
        }
    }

    // ---- checks

    static void due(String what, long got, long want) {
        due(what, Long.toString(got), Long.toString(want));
    }

    static void due(String what, String got, String want) {
        checksOfSentence++;
        if (!got.equals(want)) {
            wrong++;
            System.out.println(place + what + ": got " + got + ", due is " + want);
        }
    }

    static String thrownBy(Call call) {
        try {
            return "the answer " + call.answer();
        } catch (RuntimeException e) {
            return e.getClass().getSimpleName();
        }
    }

    static void takes(String what, Call call) {
        String got = thrownBy(call);
        due(what + " is taken", got.startsWith("the answer ") ? "an answer" : got, "an answer");
    }

    /** The call throws just this exception, and the desk is then like one that was not asked. */
    static void refuses(Maker maker, String what, String exception, DeskCall call) {
        StuntDesk asked = maker.make();
        due(what, thrownBy(() -> call.answer(asked)), exception);
        dueAlike(what + " changes nothing", asked, maker.make());
    }

    /** The smallest and the largest number are taken; those just outside, and far outside, are refused. */
    static void range(Maker maker, String what, int low, int high, String exception, NumberCall call) {
        takes(what + " " + low, () -> call.answer(maker.make(), low));
        takes(what + " " + high, () -> call.answer(maker.make(), high));
        int[] outside = {low - 1, high + 1, -1 - high, low + 256, low + 65536, Integer.MIN_VALUE, Integer.MAX_VALUE};
        for (int number : outside) {
            refuses(maker, what + " " + number, exception, desk -> call.answer(desk, number));
        }
    }

    /** Both answer the same now, and after each undo. */
    static void dueAlike(String what, StuntDesk one, StuntDesk other) {
        dueRehearsedAlike(what, one, other);
        for (int left = other.count(10); left > 0; left--) {
            due(what + ", an undo", one.undo(), other.undo());
            due(what + ", undone", one.digest(), other.digest());
        }
        dueRehearsedAlike(what + ", all undone", one, other);
        due(what + ", no more to undo", thrownBy(one::undo), STATE);
    }

    /** The digest asks for rehearsals of one risk alone. */
    private static void dueRehearsedAlike(String what, StuntDesk one, StuntDesk other) {
        due(what, one.digest(), other.digest());
        for (int person = 0; person < 8; person++) {
            for (int kind = 0; kind < 6; kind++) {
                due(what + ", rehearsed", one.rehearsed(person, kind, 1), other.rehearsed(person, kind, 1));
                due(what + ", rehearsed with care", one.rehearsed(person, kind, 5), other.rehearsed(person, kind, 5));
            }
        }
    }

    // ---- calls

    static StuntDesk type(StuntDesk desk, String text) {
        for (int i = 0; i < text.length(); i++) {
            desk.append(text.charAt(i));
        }
        return desk;
    }

    /** Types and plays a plan: many calls, but one saved state. */
    static int play(StuntDesk desk, String text) {
        return type(desk, text).play();
    }

    static void rehearse(StuntDesk desk, int times, int person, int kind, int risk) {
        for (int i = 0; i < times; i++) {
            due("rehearsal counts", desk.rehearse(person, kind, risk), 1);
        }
    }

    static void pass(StuntDesk desk, int days) {
        int left = days;
        while (left > 0) {
            int step = Math.min(left, 99);
            desk.pass(step);
            left -= step;
        }
    }

    static StuntDesk deskOnDay(int day) {
        StuntDesk desk = new StuntDesk();
        pass(desk, day);
        return desk;
    }

    /** Asks for each value of which the digest is made: up to 450 calls. */
    static long digestByLooks(StuntDesk desk, String buffer) {
        long hash = 3527;
        for (int what = 0; what <= 10; what++) {
            hash = 31 * hash + desk.count(what);
        }
        for (int person = 0; person < 8; person++) {
            for (int what = 0; what <= 6; what++) {
                hash = 31 * hash + desk.person(person, what);
            }
            for (int kind = 0; kind < 6; kind++) {
                hash = 31 * hash + desk.rehearsed(person, kind, 2);
            }
            hash = 31 * hash + desk.ifHurt(person, 16);
        }
        int scenes = desk.count(4);
        for (int scene = 0; scene < scenes; scene++) {
            for (int what = 0; what <= 5; what++) {
                hash = 31 * hash + desk.sceneOf(scene, what);
            }
            hash = 31 * hash + desk.best(scene);
            for (int person = 0; person < 8; person++) {
                hash = 31 * hash + desk.refusal(scene, person);
                hash = 31 * hash + desk.lacking(scene, person);
                hash = 31 * hash + desk.soonest(scene, person);
            }
        }
        hash = 31 * hash + desk.cost(3, 10);
        hash = 31 * hash + Double.doubleToLongBits(desk.shotShare());
        hash = 31 * hash + buffer.length();
        for (int i = 0; i < buffer.length(); i++) {
            hash = 31 * hash + buffer.charAt(i);
        }
        return hash;
    }
}
