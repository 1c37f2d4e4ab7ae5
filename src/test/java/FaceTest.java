import java.lang.reflect.Constructor;
import java.lang.reflect.Field;
import java.lang.reflect.Method;
import java.lang.reflect.Modifier;
import java.util.TreeSet;

/** The class shows the document's face and nothing else. */
public final class FaceTest {
    public static void main(String[] args) {
        Check.due("public and final", LetterSums.class.getModifiers(), Modifier.PUBLIC | Modifier.FINAL);
        TreeSet<String> face = new TreeSet<>();
        for (Constructor<?> c : LetterSums.class.getDeclaredConstructors()) {
            face.add(c.toString());
        }
        for (Method m : LetterSums.class.getDeclaredMethods()) {
            if (!Modifier.isPrivate(m.getModifiers())) {
                face.add(m.toString().replace("LetterSums.", ""));
            }
        }
        for (Field f : LetterSums.class.getDeclaredFields()) {
            if (!Modifier.isPrivate(f.getModifiers())) {
                face.add(f.toString());
            }
        }
        Check.due("the face", String.join("; ", face), String.join("; ", new TreeSet<>(java.util.List.of(
                "public LetterSums(int)", "public boolean unit(int)", "public int read()",
                "public void bar(boolean)", "public int letters()", "public int letter(int)",
                "public int run(int)", "public int digit(int,int)", "public long side(int,int)",
                "public int carry(int,int)", "public int text(int,int)", "public boolean one()",
                "public int fixed()"))));
        Check.end();
    }
}
