import java.lang.reflect.Constructor;
import java.lang.reflect.Field;
import java.lang.reflect.Member;
import java.lang.reflect.Method;
import java.lang.reflect.Modifier;
import java.util.Arrays;
import java.util.Set;
import java.util.TreeSet;

/** The document's public face, and rule 1 of LANGUAGE.md: nothing else can be seen. */
public final class FaceTest {
  private static final Set<String> FACE = new TreeSet<>(Arrays.asList(
      "public NumberScribe()",
      "public int NumberScribe.decode(int)",
      "public int NumberScribe.based(int,long)",
      "public int NumberScribe.bits(int,int)",
      "public int NumberScribe.hash(long)",
      "public int NumberScribe.octet(int)",
      "public int NumberScribe.piece(int,int,int,int)",
      "public int NumberScribe.read(int,int)",
      "public int NumberScribe.two(int,int,int)",
      "public int NumberScribe.type(int)",
      "public int NumberScribe.wipe()",
      "public int NumberScribe.write(int,long,int)",
      "public long NumberScribe.longBits(long,int)",
      "public long NumberScribe.longTwo(int,long,long)",
      "public long NumberScribe.number()",
      "public long NumberScribe.wide(int)",
      "public static final int NumberScribe.REFUSED"));

  public static void main(String[] args) {
    Check.holds("The public face", FaceTest::faceIsTheDocuments);
    Check.holds("The public face: public final class NumberScribe", FaceTest::classIsPublicAndFinal);
    Check.holds("LANGUAGE.md 1: No private namesake of a public method", FaceTest::noPrivateNamesake);
    Check.finish();
  }

  private static void faceIsTheDocuments() {
    Set<String> seen = new TreeSet<>();
    for (Constructor<?> constructor : NumberScribe.class.getDeclaredConstructors()) {
      addIfSeen(seen, constructor);
    }
    for (Method method : NumberScribe.class.getDeclaredMethods()) {
      addIfSeen(seen, method);
    }
    for (Field field : NumberScribe.class.getDeclaredFields()) {
      addIfSeen(seen, field);
    }
    if (!seen.equals(FACE)) {
      System.out.println("the face is " + seen + ", due is " + FACE);
    }
    Check.due("the face", seen.equals(FACE) ? 1 : 0, 1);
  }

  private static void classIsPublicAndFinal() {
    int modifiers = NumberScribe.class.getModifiers();
    Check.due("the class's modifiers", modifiers, Modifier.PUBLIC | Modifier.FINAL);
  }

  private static void addIfSeen(Set<String> seen, Member member) {
    if (!Modifier.isPrivate(member.getModifiers())) {
      seen.add(member.toString());
    }
  }

  private static void noPrivateNamesake() {
    for (Method method : NumberScribe.class.getDeclaredMethods()) {
      if (Modifier.isPrivate(method.getModifiers())) {
        boolean namesake = FACE.stream().anyMatch(f -> f.contains("." + method.getName() + "("));
        Check.due("a public namesake of private " + method.getName(), namesake ? 1 : 0, 0);
      }
    }
  }
}
