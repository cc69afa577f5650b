import java.lang.reflect.Constructor;
import java.lang.reflect.Field;
import java.lang.reflect.Member;
import java.lang.reflect.Method;
import java.lang.reflect.Modifier;
import java.util.List;
import java.util.TreeSet;

/** The public face: every constant, constructor and method of the document, and no other. */
public final class FaceTest extends Tests {
    private static final String[] FACE = {
        "public static final int AeadBox.NONE",
        "public AeadBox(int)",
        "public boolean AeadBox.setKeyWord(int,int)",
        "public boolean AeadBox.setNonceWord(int,int)",
        "public boolean AeadBox.begin(int)",
        "public boolean AeadBox.aad(int)",
        "public int AeadBox.data(int)",
        "public boolean AeadBox.finish()",
        "public boolean AeadBox.expectTag(int,int)",
        "public boolean AeadBox.verify()",
        "public int AeadBox.tag(int)",
        "public int AeadBox.out(int)",
        "public int AeadBox.length()",
        "public int AeadBox.added()",
        "public int AeadBox.phase()",
        "public void AeadBox.reset()",
    };

    private final TreeSet<String> seen = new TreeSet<>();

    public static void main(String[] args) throws IllegalAccessException {
        new FaceTest().runAll();
    }

    FaceTest() {
        for (Field field : AeadBox.class.getDeclaredFields()) {
            note(field, field.toString());
        }
        for (Constructor<?> constructor : AeadBox.class.getDeclaredConstructors()) {
            note(constructor, constructor.toString());
        }
        for (Method method : AeadBox.class.getDeclaredMethods()) {
            note(method, method.toString());
        }
    }

    private void note(Member member, String text) {
        if (!Modifier.isPrivate(member.getModifiers()) && !member.isSynthetic()) {
            seen.add(text);
        }
    }

    void everyMemberOfTheDocument() {
        for (String member : FACE) {
            due("the class has " + member, seen.contains(member), true);
        }
    }

    void noOtherMemberThatIsNotPrivate() {
        TreeSet<String> others = new TreeSet<>(seen);
        others.removeAll(List.of(FACE));
        for (String member : others) {
            due("the class has " + member, true, false);
        }
    }

    void noPrivateMethodBearsThePublicNameOfAnother() {
        TreeSet<String> open = new TreeSet<>();
        TreeSet<String> hidden = new TreeSet<>();
        for (Method method : AeadBox.class.getDeclaredMethods()) {
            (Modifier.isPublic(method.getModifiers()) ? open : hidden).add(method.getName());
        }
        hidden.retainAll(open);
        due("there are such: " + hidden, hidden.isEmpty(), true);
    }

    void classIsPublicAndFinal() {
        int modifiers = AeadBox.class.getModifiers();
        due("public", Modifier.isPublic(modifiers), true);
        due("final", Modifier.isFinal(modifiers), true);
    }

    void noneIsOneBelowZero() {
        due("NONE", AeadBox.NONE, -1);
    }
}
