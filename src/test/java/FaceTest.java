import java.lang.reflect.Constructor;
import java.lang.reflect.Field;
import java.lang.reflect.Method;
import java.lang.reflect.Modifier;
import java.util.Set;
import java.util.TreeSet;

/** The class shows the document's face and nothing else (rule 1 of LANGUAGE.md). */
public final class FaceTest {
    private static final Set<String> FACE = Set.of(
            "public static final int ByteShelf.NONE",
            "public static final int ByteShelf.FULL",
            "public ByteShelf()",
            "public int ByteShelf.take(int)",
            "public boolean ByteShelf.give(int)",
            "public int ByteShelf.resize(int,int)",
            "public boolean ByteShelf.put(int,int,int)",
            "public boolean ByteShelf.fill(int,int,int,int)",
            "public int ByteShelf.copy(int,int)",
            "public int ByteShelf.get(int,int)",
            "public int ByteShelf.size(int)",
            "public int ByteShelf.compare(int,int)",
            "public int ByteShelf.sum(int)",
            "public int ByteShelf.rows()",
            "public int ByteShelf.places()");

    public static void main(String[] args) {
        Answers answers = new Answers();
        Set<String> shown = new TreeSet<>();
        for (Field field : ByteShelf.class.getDeclaredFields()) {
            addShown(shown, field.getModifiers(), field.toString());
        }
        for (Method method : ByteShelf.class.getDeclaredMethods()) {
            addShown(shown, method.getModifiers(), method.toString());
        }
        for (Constructor<?> made : ByteShelf.class.getDeclaredConstructors()) {
            addShown(shown, made.getModifiers(), made.toString());
        }
        Set<String> either = new TreeSet<>(FACE);
        either.addAll(shown);
        for (String member : either) {
            answers.due("shown: " + member, shown.contains(member), FACE.contains(member));
        }
        answers.due("NONE", ByteShelf.NONE, -1);
        answers.due("FULL", ByteShelf.FULL, -2);
        answers.due("public", Modifier.isPublic(ByteShelf.class.getModifiers()), true);
        answers.due("final", Modifier.isFinal(ByteShelf.class.getModifiers()), true);
        answers.end();
    }

    private static void addShown(Set<String> shown, int modifiers, String member) {
        if (!Modifier.isPrivate(modifiers)) {
            shown.add(member);
        }
    }
}
