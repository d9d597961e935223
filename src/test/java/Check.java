import java.lang.reflect.Array;
import java.lang.reflect.Field;
import java.lang.reflect.Modifier;
import java.util.NoSuchElementException;

/** What all tests share: they print every answer that is not due and end with exit code 1 if there was one. */
final class Check {
    static final Class<NoSuchElementException> NO_SUCH = NoSuchElementException.class;
    static final Class<IllegalArgumentException> ARGUMENT = IllegalArgumentException.class;
    static final Class<IllegalStateException> STATE = IllegalStateException.class;
    static final Class<UnsupportedOperationException> NO_ROOM = UnsupportedOperationException.class;

    private static int checks = 0;
    private static int wrong = 0;
    private static String sentence = "";

    private Check() {
    }

    /** Checks of one sentence of the document; one that checks nothing is wrong, too. */
    static void sentence(String words, Runnable test) {
        int before = checks;
        sentence = "\"" + words + "\": ";
        try {
            test.run();
        } catch (RuntimeException e) {
            say("stopped by " + e + " at " + e.getStackTrace()[0]);
        }
        if (checks == before) {
            say("nothing was checked");
        }
        sentence = "";
    }

    static void same(String what, long got, long due) {
        checks++;
        if (got != due) {
            say(what + " answered " + got + ", due is " + due);
        }
    }

    static void holds(String what, boolean holds) {
        checks++;
        if (!holds) {
            say(what);
        }
    }

    static void refused(LotRules x, String what, Class<? extends RuntimeException> due, Runnable call) {
        String before = stateOf(x);
        refusedLeavingTrace(what, due, call);
        holds(what + " was refused but changed something", before.equals(stateOf(x)));
    }

    /** For the put() that mixed() remembers: the one refusal that is to be seen afterwards. */
    static void refusedLeavingTrace(String what, Class<? extends RuntimeException> due, Runnable call) {
        checks++;
        try {
            call.run();
            say(what + " threw nothing, due is " + due.getSimpleName());
        } catch (RuntimeException e) {
            if (e.getClass() != due) {
                say(what + " threw " + e.getClass().getSimpleName() + ", due is " + due.getSimpleName());
            }
        }
    }

    static void end() {
        System.out.println(checks + " checks, " + wrong + " wrong");
        if (wrong != 0 || checks == 0) {
            System.exit(1);
        }
    }

    /** Reads the fields, not the face, so that looking takes none of the 512 calls that an object is good for. */
    static String stateOf(Object object) {
        StringBuilder text = new StringBuilder();
        try {
            write(object, text);
        } catch (IllegalAccessException e) {
            throw new AssertionError(e);
        }
        return text.toString();
    }

    private static void write(Object object, StringBuilder text) throws IllegalAccessException {
        for (Field field : object.getClass().getDeclaredFields()) {
            if (Modifier.isStatic(field.getModifiers())) {
                continue;
            }
            field.setAccessible(true);
            Object value = field.get(object);
            text.append(field.getName()).append('=');
            if (field.getType().isPrimitive()) {
                text.append(value).append(' ');
            } else if (field.getType().isArray()) {
                for (int i = 0; i < Array.getLength(value); i++) {
                    text.append(Array.get(value, i)).append(' ');
                }
            } else {
                write(value, text);
            }
        }
    }

    private static void say(String text) {
        wrong++;
        System.out.println(sentence + text);
    }
}
