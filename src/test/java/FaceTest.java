import java.lang.reflect.Constructor;
import java.lang.reflect.Field;
import java.lang.reflect.Method;
import java.lang.reflect.Modifier;
import java.util.Arrays;
import java.util.Set;
import java.util.TreeSet;

/** The face is the document's, no more and no less. */
public final class FaceTest {
    private static final String[] METHODS = {
        "int feed(int)", "int end(int)", "int text()", "int fault()", "int rule(int)", "int glove(int,int)",
        "int door(int,int)", "int stop(int)", "int alter(int,int,int)", "int fame(int,int)", "int leave(int)",
        "int go(int)", "int call(int)", "int cut(int)", "int days(int)", "int runs(int,int)",
        "int ahead(int,int,int)", "int meets(int)", "int place(int,int,int)", "int extra(int,int)",
        "int swap(int,int)", "int shun(int,int)", "int need(int,int)", "int kind(int,int,int)",
        "int drop(int,int,int)", "long luck(int,int,int,int)", "long mean(int,int,int)", "int see(int,int,int)",
        "int forget(int)", "int kinds(int)", "int doors(int)", "int ask(int,int)", "int drift(int,int,int)",
        "int keep(int)", "int back(int)", "int sheet(int,int,int)", "int lay(int,int,int)",
        "int read(int,int,int,int)", "int torn()", "int count(int)"};

    public static void main(String[] args) {
        Check c = new Check("FaceTest");
        Class<GloveAbout> face = GloveAbout.class;
        c.holds("public final", Modifier.isPublic(face.getModifiers()) && Modifier.isFinal(face.getModifiers()));
        c.due("BAD", GloveAbout.BAD, -1);
        c.due("STATE", GloveAbout.STATE, -2);
        c.due("FULL", GloveAbout.FULL, -3);
        c.due("NONE", GloveAbout.NONE, -4);
        methodsAreTheDocuments(c, face);
        fieldsAreTheDocuments(c, face);
        constructorIsOne(c, face);
        nestedClassesAreHidden(c, face);
        c.finish();
    }

    private static void methodsAreTheDocuments(Check c, Class<?> face) {
        Set<String> due = new TreeSet<>(Arrays.asList(METHODS));
        Set<String> names = new TreeSet<>();
        for (Method method : face.getDeclaredMethods()) {
            if (Modifier.isPublic(method.getModifiers())) {
                c.holds(signOf(method) + " is the document's", due.remove(signOf(method)));
                c.holds(method + " is no static one", !Modifier.isStatic(method.getModifiers()));
                names.add(method.getName());
            }
        }
        c.holds("all are there but " + due, due.isEmpty());
        for (Method method : face.getDeclaredMethods()) {
            if (!Modifier.isPublic(method.getModifiers())) {
                hidden(c, method.toString(), method.getModifiers());
                c.holds(method + " has a name of its own", !names.contains(method.getName()));
            }
        }
        for (Class<?> inside : face.getDeclaredClasses()) {
            for (Method method : inside.getDeclaredMethods()) {
                c.holds(method + " has a name of its own", !names.contains(method.getName()));
            }
        }
    }

    private static String signOf(Method method) {
        StringBuilder sign = new StringBuilder(method.getReturnType() + " " + method.getName() + "(");
        for (Class<?> type : method.getParameterTypes()) {
            sign.append(sign.charAt(sign.length() - 1) == '(' ? "" : ",").append(type);
        }
        return sign.append(")").toString();
    }

    private static void fieldsAreTheDocuments(Check c, Class<?> face) {
        Set<String> constants = new TreeSet<>(Arrays.asList("BAD", "STATE", "FULL", "NONE"));
        for (Field field : face.getDeclaredFields()) {
            if (constants.remove(field.getName())) {
                c.due(field.getName(), field.getModifiers(), Modifier.PUBLIC | Modifier.STATIC | Modifier.FINAL);
            } else {
                hidden(c, field.toString(), field.getModifiers());
            }
        }
        c.holds("all constants", constants.isEmpty());
    }

    private static void hidden(Check c, String what, int modifiers) {
        c.holds(what + " is private", Modifier.isPrivate(modifiers));
    }

    private static void constructorIsOne(Check c, Class<?> face) {
        Constructor<?>[] all = face.getDeclaredConstructors();
        c.due("constructors", all.length, 1);
        c.due("its parameters", all[0].getParameterCount(), 0);
        c.holds("it is public", Modifier.isPublic(all[0].getModifiers()));
    }

    private static void nestedClassesAreHidden(Check c, Class<?> face) {
        for (Class<?> inside : face.getDeclaredClasses()) {
            c.holds(inside + " is static", Modifier.isStatic(inside.getModifiers()));
            c.holds(inside + " is not public", !Modifier.isPublic(inside.getModifiers()));
        }
    }
}
