import java.lang.reflect.Constructor;
import java.lang.reflect.InvocationTargetException;
import java.lang.reflect.Method;
import java.util.HashMap;
import java.util.List;
import java.util.Map;

/** Plays runs on objects of one class: of MaypoleGreen, or of the plain reading. */
final class Player {
    /** The document promises nothing behind these. */
    static final int MOST_CALLS = 512;

    private final Class<?> type;
    private final String label;
    private final Map<String, Method> methods = new HashMap<>();

    Player(Class<?> type, String label) {
        this.type = type;
        this.label = label;
        for (Method m : MaypoleGreen.class.getDeclaredMethods()) {
            if (java.lang.reflect.Modifier.isPublic(m.getModifiers())) {
                methods.put(m.getName(), of(type, m));
            }
        }
    }

    private static Method of(Class<?> type, Method m) {
        try {
            Method same = type.getDeclaredMethod(m.getName(), m.getParameterTypes());
            same.setAccessible(true);
            return same;
        } catch (NoSuchMethodException e) {
            throw new IllegalStateException(e);
        }
    }

    Object make() {
        try {
            Constructor<?> made = type.getDeclaredConstructor();
            made.setAccessible(true);
            return made.newInstance();
        } catch (ReflectiveOperationException e) {
            throw new IllegalStateException(e);
        }
    }

    int answer(Object green, String name, int... args) {
        Method method = methods.get(name);
        if (method == null || method.getParameterCount() != args.length) {
            throw new IllegalArgumentException("no such call: " + name + " with " + args.length);
        }
        Object[] boxed = new Object[args.length];
        for (int i = 0; i < args.length; i++) {
            boxed[i] = args[i];
        }
        try {
            return (Integer) method.invoke(green, boxed);
        } catch (InvocationTargetException e) {
            throw new IllegalStateException(name + " threw", e.getCause());
        } catch (IllegalAccessException e) {
            throw new IllegalStateException(e);
        }
    }

    void play(String title, Run run) {
        for (List<Run.Call> calls : run.objects) {
            Object green = make();
            Check.due(title + ": calls of one object", calls.size() <= MOST_CALLS);
            for (int i = 0; i < calls.size(); i++) {
                Run.Call call = calls.get(i);
                int got = answer(green, call.name(), call.args());
                if (call.due() != null) {
                    Check.due(label + title + ": call " + i + ", " + call, got, call.due());
                }
                if (call.change() != Run.Change.ANYTHING) {
                    sameBut(label + title + ": call " + i + ", " + call, calls, i);
                }
            }
        }
    }

    /** Plays what was ahead of a call with it and without it, and looks at all that can be seen. */
    private void sameBut(String title, List<Run.Call> calls, int i) {
        List<Run.Call> with = calls.subList(0, i + 1);
        List<Run.Call> without = calls.subList(0, i);
        if (calls.get(i).change() == Run.Change.TEXT) {
            int to = i;
            while (to > 0 && calls.get(to - 1).name().equals("feed")) {
                to--;
            }
            without = calls.subList(0, to);
        }
        for (List<Run.Call> looks : Looks.at(this, replayed(without), MOST_CALLS - with.size())) {
            Object one = replayed(with);
            Object other = replayed(without);
            for (Run.Call look : looks) {
                int due = answer(other, look.name(), look.args());
                Check.due(title + " has changed what is seen by " + look, answer(one, look.name(), look.args()), due);
            }
        }
    }

    private Object replayed(List<Run.Call> calls) {
        Object green = make();
        for (Run.Call call : calls) {
            answer(green, call.name(), call.args());
        }
        return green;
    }
}
