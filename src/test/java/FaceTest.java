import java.lang.reflect.Constructor;
import java.lang.reflect.Field;
import java.lang.reflect.Method;
import java.lang.reflect.Modifier;
import java.util.Set;
import java.util.TreeSet;

/** The class has the members of the document's face and no others that are not private. */
public final class FaceTest {
    public static void main(String[] args) {
        Check.due("NONE", -1, LogicText.NONE);
        Check.due("the class is public and final", Modifier.PUBLIC | Modifier.FINAL,
                LogicText.class.getModifiers());
        Set<String> want = new TreeSet<>(Set.of(
                "public static final int LogicText.NONE",
                "public LogicText()",
                "public void LogicText.feed(int,int,int,int,int)",
                "public int LogicText.end(int)",
                "public int LogicText.read() throws java.lang.IllegalArgumentException",
                "public int LogicText.fault(int)",
                "public int LogicText.count(int)",
                "public int LogicText.item(int,int)",
                "public int LogicText.part(int,int,int)",
                "public int LogicText.node(int,int)",
                "public int LogicText.name(int,int)",
                "public int LogicText.find(long,long)",
                "public int LogicText.tell(int)",
                "public int LogicText.letter(int)"));
        Set<String> got = new TreeSet<>();
        for (Field field : LogicText.class.getDeclaredFields()) {
            if (!Modifier.isPrivate(field.getModifiers())) {
                got.add(field.toGenericString());
            }
        }
        for (Constructor<?> made : LogicText.class.getDeclaredConstructors()) {
            got.add(made.toGenericString());
        }
        for (Method method : LogicText.class.getDeclaredMethods()) {
            if (!Modifier.isPrivate(method.getModifiers()) && !method.isSynthetic()) {
                got.add(method.toGenericString());
            }
        }
        Check.due("the face", String.join("\n  ", want), String.join("\n  ", got));
        Check.finish();
    }
}
