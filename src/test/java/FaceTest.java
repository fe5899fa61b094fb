import java.lang.reflect.Constructor;
import java.lang.reflect.Field;
import java.lang.reflect.Method;
import java.lang.reflect.Modifier;
import java.util.TreeSet;

/** The public face: what the document writes, and no other member that is not private. */
public final class FaceTest {
    private static final String[] FACE = {
        "public static final int CookieListener.NONE",
        "public CookieListener()",
        "public void CookieListener.rooms(int,int) throws java.lang.IllegalArgumentException",
        "public void CookieListener.key(long,long)",
        "public int CookieListener.pass(int) throws java.lang.IllegalArgumentException",
        "public long CookieListener.syn(int,int,int,int) throws java.lang.IllegalArgumentException",
        "public int CookieListener.ack(int,int,int,int) throws java.lang.IllegalArgumentException",
        "public int CookieListener.take()",
        "public int CookieListener.close(int,int) throws java.lang.IllegalArgumentException",
        "public int CookieListener.state(int,int) throws java.lang.IllegalArgumentException",
        "public long CookieListener.cookie(int,int,int,int,int) throws java.lang.IllegalArgumentException",
        "public long CookieListener.hash(long,long)",
        "public int CookieListener.told(int) throws java.lang.IllegalArgumentException",
    };

    public static void main(String[] args) {
        Check check = new Check("FaceTest");
        TreeSet<String> seen = new TreeSet<>();
        for (Field f : CookieListener.class.getDeclaredFields()) {
            if (!Modifier.isPrivate(f.getModifiers())) {
                seen.add(f.toString());
            }
        }
        for (Constructor<?> c : CookieListener.class.getDeclaredConstructors()) {
            if (!Modifier.isPrivate(c.getModifiers())) {
                seen.add(c.toString());
            }
        }
        for (Method m : CookieListener.class.getDeclaredMethods()) {
            if (!Modifier.isPrivate(m.getModifiers())) {
                seen.add(m.toString());
            }
        }
        for (String member : FACE) {
            check.yes("has " + member, seen.remove(member));
        }
        check.yes("has nothing beyond: " + seen, seen.isEmpty());
        int modifiers = CookieListener.class.getModifiers();
        check.yes("public and final", Modifier.isPublic(modifiers) && Modifier.isFinal(modifiers));
        check.due("NONE", CookieListener.NONE, -1);
        check.end();
    }
}
