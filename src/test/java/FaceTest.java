import java.lang.reflect.Constructor;
import java.lang.reflect.Field;
import java.lang.reflect.Member;
import java.lang.reflect.Method;
import java.lang.reflect.Modifier;
import java.util.TreeSet;

/** The public face: every constant, constructor and method of the document, and no other. */
public final class FaceTest {
    private static final String[] FACE = {
        "public static final int AeadBox.NONE",
        "public AeadBox(int)",
        "public boolean AeadBox.setKeyWord(int,int)",
        "public boolean AeadBox.setNonceWord(int,int)",
        "public boolean AeadBox.begin(int)",
        "public boolean AeadBox.aad(int)",
        "public int AeadBox.data(int)",
        "public boolean AeadBox.finish()",
        "public boolean AeadBox.expectTag(int,int)",
        "public boolean AeadBox.verify()",
        "public int AeadBox.tag(int)",
        "public int AeadBox.out(int)",
        "public int AeadBox.length()",
        "public int AeadBox.added()",
        "public int AeadBox.phase()",
        "public void AeadBox.reset()",
    };

    private final Check check = new Check();
    private final TreeSet<String> seen = new TreeSet<>();
    private final TreeSet<String> publicNames = new TreeSet<>();

    public static void main(String[] args) {
        FaceTest test = new FaceTest();
        test.collect();
        test.compare();
        test.check.due("NONE", AeadBox.NONE, -1);
        test.check.end();
    }

    private void collect() {
        for (Field field : AeadBox.class.getDeclaredFields()) {
            note(field, field.toString());
        }
        for (Constructor<?> constructor : AeadBox.class.getDeclaredConstructors()) {
            note(constructor, constructor.toString());
        }
        for (Method method : AeadBox.class.getDeclaredMethods()) {
            note(method, method.toString());
            if (Modifier.isPublic(method.getModifiers())) {
                publicNames.add(method.getName());
            }
        }
    }

    private void note(Member member, String text) {
        if (!Modifier.isPrivate(member.getModifiers()) && !member.isSynthetic()) {
            seen.add(text);
        }
    }

    private void compare() {
        for (String member : FACE) {
            check.due("the class has " + member, seen.remove(member), true);
        }
        for (String member : seen) {
            check.due("the class has " + member, true, false);
        }
        for (Method method : AeadBox.class.getDeclaredMethods()) {
            boolean hidden = Modifier.isPrivate(method.getModifiers());
            check.due("a private " + method.getName(), hidden && publicNames.contains(method.getName()), false);
        }
        int modifiers = AeadBox.class.getModifiers();
        check.due("the class is public and final", Modifier.isPublic(modifiers) && Modifier.isFinal(modifiers), true);
    }
}
