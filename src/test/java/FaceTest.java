import java.lang.reflect.Constructor;
import java.lang.reflect.Field;
import java.lang.reflect.Method;
import java.lang.reflect.Modifier;
import java.util.TreeSet;

/** The public face: just the constants, the constructor and the methods of the document. */
public final class FaceTest {
    private static final String[] FACE = {
        "row(int,int,int)", "set(int,int,int)", "copy(int,int,int,int,int)", "drop(int)",
        "feed(long,int)", "game()", "fault()", "holes(int,int)", "worth(int)", "play(int,int)",
        "plays(int,int,int)", "lots(int,int)", "now(int)", "best(int)", "mean(int,int,int)",
        "fewest(int,int)", "triples(int)", "alike(int,int)", "fit(int,int,int)", "image(int)",
        "restore(int)", "kind(int)", "as(int,int)", "ask(int,int)", "trace(int)", "count(int)",
        "status()"};
    private static int wrong = 0;

    private static void due(String what, String got, String want) {
        if (!got.equals(want)) {
            wrong++;
            System.out.println(what + ": " + got + ", due is " + want);
        }
    }

    public static void main(String[] args) {
        TreeSet<String> want = new TreeSet<>();
        TreeSet<String> names = new TreeSet<>();
        for (String face : FACE) {
            want.add("public int " + face);
            names.add(face.substring(0, face.indexOf('(')));
        }
        TreeSet<String> got = new TreeSet<>();
        for (Method method : WindowCards.class.getDeclaredMethods()) {
            if (Modifier.isPrivate(method.getModifiers())) {
                due("a private name", "" + names.contains(method.getName()), "false");
            } else {
                got.add(Modifier.toString(method.getModifiers()) + " " + method.getReturnType() + " "
                        + method.getName() + "(" + types(method.getParameterTypes()) + ")");
            }
        }
        due("methods", got.toString(), want.toString());
        constants();
        Constructor<?>[] made = WindowCards.class.getDeclaredConstructors();
        due("constructors", made.length + " " + made[0], "1 public WindowCards()");
        due("class", Modifier.toString(WindowCards.class.getModifiers()), "public final");
        if (wrong != 0) {
            System.exit(1);
        }
    }

    private static String types(Class<?>[] types) {
        StringBuilder told = new StringBuilder();
        for (Class<?> type : types) {
            told.append(told.length() == 0 ? "" : ",").append(type);
        }
        return told.toString();
    }

    private static void constants() {
        TreeSet<String> got = new TreeSet<>();
        for (Field field : WindowCards.class.getDeclaredFields()) {
            if (!Modifier.isPrivate(field.getModifiers())) {
                got.add(Modifier.toString(field.getModifiers()) + " " + field.getName());
            }
        }
        String way = "public static final ";
        due("constants", got.toString(), "[" + way + "BAD, " + way + "FULL, " + way + "NONE, " + way + "STATE]");
        due("NONE", "" + WindowCards.NONE, "-1000000");
        due("BAD", "" + WindowCards.BAD, "-1000001");
        due("STATE", "" + WindowCards.STATE, "-1000002");
        due("FULL", "" + WindowCards.FULL, "-1000003");
    }
}
