import java.lang.reflect.Constructor;
import java.lang.reflect.Field;
import java.lang.reflect.Method;
import java.lang.reflect.Modifier;
import java.util.Arrays;
import java.util.Set;
import java.util.TreeSet;

/** The class has the document's face, and no member beside it that another class could see (LANGUAGE.md, rule 1). */
public final class FaceTest {
    private static final String[] FACE = {
        "int BAD", "long BROKEN", "VotedCore(int)",
        "boolean write(int, int)", "boolean set(int, int)", "int register(int)", "long look(int)", "long bits(int)",
        "boolean flip(int, int)", "boolean plan(int, int, int)", "int planned()", "int run(int)", "int cause()",
        "int value()", "boolean resume(int)", "int cycles()", "int count(int)"
    };

    public static void main(String[] args) {
        Check.due("BAD", VotedCore.BAD, -1L);
        Check.due("BROKEN", VotedCore.BROKEN, -2L);
        Check.due("the class is public and final", Modifier.isPublic(VotedCore.class.getModifiers())
            && Modifier.isFinal(VotedCore.class.getModifiers()), true);
        Set<String> missing = new TreeSet<>(Arrays.asList(FACE));
        Set<String> extra = visibleMembers();
        missing.removeAll(visibleMembers());
        extra.removeAll(Arrays.asList(FACE));
        Check.due("members of the face that are missing: " + missing, missing.size(), 0);
        Check.due("members beside the face: " + extra, extra.size(), 0);
        privateNamesDifferFromPublicOnes(VotedCore.class);
        for (Class<?> inside : VotedCore.class.getDeclaredClasses()) {
            Check.due(inside + " is static", Modifier.isStatic(inside.getModifiers()), true);
            privateNamesDifferFromPublicOnes(inside);
        }
        Check.end();
    }

    private static Set<String> visibleMembers() {
        Set<String> members = new TreeSet<>();
        for (Field field : VotedCore.class.getDeclaredFields()) {
            if (!Modifier.isPrivate(field.getModifiers())) {
                members.add(field.getType().getName() + " " + field.getName());
            }
        }
        for (Method method : VotedCore.class.getDeclaredMethods()) {
            if (!Modifier.isPrivate(method.getModifiers())) {
                members.add(method.getReturnType().getName() + " " + method.getName() + types(method.getParameterTypes()));
            }
        }
        for (Constructor<?> constructor : VotedCore.class.getDeclaredConstructors()) {
            members.add(constructor.getName() + types(constructor.getParameterTypes()));
        }
        return members;
    }

    private static String types(Class<?>[] types) {
        StringBuilder text = new StringBuilder("(");
        for (int i = 0; i < types.length; i++) {
            text.append(i == 0 ? "" : ", ").append(types[i].getName());
        }
        return text.append(")").toString();
    }

    private static void privateNamesDifferFromPublicOnes(Class<?> type) {
        Set<String> publicNames = new TreeSet<>();
        for (String member : FACE) {
            if (member.indexOf('(') > 0) {
                publicNames.add(member.substring(member.indexOf(' ') + 1, member.indexOf('(')));
            }
        }
        for (Method method : type.getDeclaredMethods()) {
            boolean clash = Modifier.isPrivate(method.getModifiers()) && publicNames.contains(method.getName());
            Check.due(type.getName() + " has a private method with the public name " + method.getName(), clash, false);
        }
    }
}
