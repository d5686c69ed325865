import java.lang.reflect.Constructor;
import java.lang.reflect.Field;
import java.lang.reflect.Method;
import java.lang.reflect.Modifier;
import java.util.TreeSet;

/** The public face: what the document lists, and no more. */
public final class FaceTest {
    private static final String[] FACE = {
        "int unit(int)", "int section(int,int,int,int)", "void word(int,int,int)",
        "int symbol(int,int,int,int)", "int other(int,int,int,int,int)",
        "int relocation(int,int,int,int,int)", "void entry(int)", "void keep(int,boolean)",
        "void fold(boolean,boolean)", "void clear()", "int link(int)", "int fault(int)",
        "boolean isIn(int)", "int address(int)", "int like(int)", "int means(int,int)",
        "int common(int)", "int at(int)", "int about(int)", "constant NONE", "constructor ()",
    };

    public static void main(String[] args) {
        Check.is("NONE", -1, LinkYard.NONE);
        Check.is("public final", true, Modifier.isPublic(LinkYard.class.getModifiers())
                && Modifier.isFinal(LinkYard.class.getModifiers()));
        TreeSet<String> due = new TreeSet<>(java.util.List.of(FACE));
        Check.is("face", due, members());
        Check.end();
    }

    private static TreeSet<String> members() {
        TreeSet<String> found = new TreeSet<>();
        for (Method m : LinkYard.class.getDeclaredMethods()) {
            if (!Modifier.isPrivate(m.getModifiers())) {
                found.add(m.getReturnType() + " " + m.getName() + kinds(m.getParameterTypes()));
            }
        }
        for (Field f : LinkYard.class.getDeclaredFields()) {
            if (!Modifier.isPrivate(f.getModifiers())) {
                found.add("constant " + f.getName());
            }
        }
        for (Constructor<?> c : LinkYard.class.getDeclaredConstructors()) {
            found.add("constructor " + kinds(c.getParameterTypes()));
        }
        return found;
    }

    private static String kinds(Class<?>[] types) {
        StringBuilder text = new StringBuilder("(");
        for (Class<?> type : types) {
            text.append(text.length() > 1 ? "," : "").append(type);
        }
        return text.append(')').toString();
    }
}
