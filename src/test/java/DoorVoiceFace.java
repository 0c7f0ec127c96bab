import java.lang.reflect.Constructor;
import java.lang.reflect.Field;
import java.lang.reflect.Method;
import java.lang.reflect.Modifier;
import java.util.Arrays;
import java.util.Set;
import java.util.TreeSet;

/** The class shows the document's face and no more. */
public final class DoorVoiceFace {
    private static final String[] METHODS = {
        "int house(int,boolean,boolean,int)", "int wall(int,int)", "int set(int,int)", "int letter(int,int,int,int,int)",
        "int say(int)", "int wipe()", "int fault()", "int judge(int)", "int done()", "int knows(int)", "int behind(int)",
        "int who(int)", "int loud(int,int)", "int hears(int)", "int best(int,int)", "int thirds(int,int)",
        "int round(int,int)", "int seen(int,boolean)", "int forget()", "int at()", "int ask(int)", "int rumour(int,int)",
        "long chance(int,int,int,int)", "int year(int,int,int)", "int image(int)", "int restore(int)", "int told(int)",
    };
    private static final String[] CONSTANTS = {
        "int NONE -6", "int UNKNOWN -1", "int OUTSIDE -2", "int STATE -3", "int FULL -4", "int NO -5",
        "long LOST -1000000000000000000",
    };
    private static int wrong = 0;

    private static void due(String what, Object got, Object want) {
        if (got.equals(want)) return;
        wrong++;
        System.out.println(what + ": " + got + ", due is " + want);
    }

    public static void main(String[] args) throws IllegalAccessException {
        due("the class", Modifier.toString(DoorVoice.class.getModifiers()), "public final");
        due("methods", shownMethods(), new TreeSet<>(Arrays.asList(METHODS)));
        due("constants", shownConstants(), new TreeSet<>(Arrays.asList(CONSTANTS)));
        Constructor<?>[] made = DoorVoice.class.getDeclaredConstructors();
        due("constructors", made.length, 1);
        due("the constructor", made[0].toString(), "public DoorVoice()");
        hiddenNames();
        changingStatics();
        System.out.println(wrong == 0 ? "the face is the document's" : wrong + " things are not as due");
        if (wrong != 0) System.exit(1);
    }

    private static Set<String> shownMethods() {
        Set<String> shown = new TreeSet<>();
        for (Method m : DoorVoice.class.getDeclaredMethods()) {
            if (Modifier.isPrivate(m.getModifiers()) || m.isSynthetic()) continue;
            due(m.getName() + " is", Modifier.toString(m.getModifiers()), "public");
            due(m.getName() + " throws", m.getExceptionTypes().length, 0);
            StringBuilder types = new StringBuilder();
            for (Class<?> t : m.getParameterTypes()) types.append(types.length() == 0 ? "" : ",").append(t.getName());
            shown.add(m.getReturnType().getName() + " " + m.getName() + "(" + types + ")");
        }
        return shown;
    }

    private static Set<String> shownConstants() throws IllegalAccessException {
        Set<String> shown = new TreeSet<>();
        for (Field f : DoorVoice.class.getDeclaredFields()) {
            if (Modifier.isPrivate(f.getModifiers()) || f.isSynthetic()) continue;
            due(f.getName() + " is", Modifier.toString(f.getModifiers()), "public static final");
            shown.add(f.getType().getName() + " " + f.getName() + " " + f.get(null));
        }
        return shown;
    }

    /** No method of its own, in whatever class inside, bears the name of one of the face. */
    private static void hiddenNames() {
        Set<String> shown = new TreeSet<>();
        for (Method m : DoorVoice.class.getDeclaredMethods()) if (Modifier.isPublic(m.getModifiers())) shown.add(m.getName());
        for (Method m : DoorVoice.class.getDeclaredMethods()) {
            if (Modifier.isPrivate(m.getModifiers())) due("hidden " + m.getName(), shown.contains(m.getName()), false);
        }
        for (Class<?> inside : DoorVoice.class.getDeclaredClasses()) {
            due(inside.getName() + " is static", Modifier.isStatic(inside.getModifiers()), true);
            for (Method m : inside.getDeclaredMethods()) due("inside " + m.getName(), shown.contains(m.getName()), false);
        }
    }

    private static void changingStatics() {
        finalStatics(DoorVoice.class);
        for (Class<?> inside : DoorVoice.class.getDeclaredClasses()) finalStatics(inside);
    }

    private static void finalStatics(Class<?> c) {
        for (Field f : c.getDeclaredFields()) {
            if (Modifier.isStatic(f.getModifiers())) due(f + " is final", Modifier.isFinal(f.getModifiers()), true);
        }
    }
}
