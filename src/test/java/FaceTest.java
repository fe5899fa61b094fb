import java.lang.reflect.Field;
import java.lang.reflect.Member;
import java.lang.reflect.Method;
import java.lang.reflect.Modifier;
import java.util.ArrayList;
import java.util.List;
import java.util.TreeSet;

/** The public face: what the document writes, and no other member that is not private. */
public final class FaceTest {
    private static final String[] FACE = {
        "public static final int CookieListener.NONE",
        "public CookieListener()",
        "public void CookieListener.rooms(int,int)",
        "public void CookieListener.key(long,long)",
        "public int CookieListener.pass(int)",
        "public long CookieListener.syn(int,int,int,int)",
        "public int CookieListener.ack(int,int,int,int)",
        "public int CookieListener.take()",
        "public int CookieListener.close(int,int)",
        "public int CookieListener.state(int,int)",
        "public long CookieListener.cookie(int,int,int,int,int)",
        "public long CookieListener.hash(long,long)",
        "public int CookieListener.told(int)",
    };

    private static final Check CHECK = new Check("FaceTest");

    public static void main(String[] args) {
        membersAreThoseOfTheDocument();
        theClassIsPublicAndFinal();
        classesInsideAreNotPublic();
        noneIsAConstant();
        noPrivateMethodHasAPublicName();
        staticFieldsAreFinal();
        CHECK.end();
    }

    private static void membersAreThoseOfTheDocument() {
        List<Member> members = new ArrayList<>(List.of(CookieListener.class.getDeclaredFields()));
        members.addAll(List.of(CookieListener.class.getDeclaredConstructors()));
        members.addAll(List.of(CookieListener.class.getDeclaredMethods()));
        TreeSet<String> seen = new TreeSet<>();
        for (Member member : members) {
            if (!Modifier.isPrivate(member.getModifiers()) && !member.isSynthetic()) {
                // What is thrown is unchecked, so the throws clause binds no caller.
                seen.add(member.toString().replaceAll(" throws .*", ""));
            }
        }
        for (String member : FACE) {
            CHECK.yes("has " + member, seen.remove(member));
        }
        CHECK.yes("has nothing beyond: " + seen, seen.isEmpty());
    }

    private static void theClassIsPublicAndFinal() {
        int modifiers = CookieListener.class.getModifiers();
        CHECK.yes("public and final", Modifier.isPublic(modifiers) && Modifier.isFinal(modifiers));
    }

    private static void classesInsideAreNotPublic() {
        for (Class<?> inside : CookieListener.class.getDeclaredClasses()) {
            int modifiers = inside.getModifiers();
            CHECK.yes(inside + " is not public", !Modifier.isPublic(modifiers) && !Modifier.isProtected(modifiers));
        }
    }

    /** Read at run time, since the compiler writes a constant's value into the test. */
    private static void noneIsAConstant() {
        try {
            Field none = CookieListener.class.getField("NONE");
            CHECK.due("NONE", none.getInt(null), -1);
        } catch (ReflectiveOperationException e) {
            CHECK.yes("NONE can be read: " + e, false);
        }
    }

    /** LANGUAGE.md, rule 1. */
    private static void noPrivateMethodHasAPublicName() {
        TreeSet<String> names = new TreeSet<>();
        for (Method method : CookieListener.class.getMethods()) {
            if (method.getDeclaringClass() == CookieListener.class) {
                names.add(method.getName());
            }
        }
        for (Method method : CookieListener.class.getDeclaredMethods()) {
            if (Modifier.isPrivate(method.getModifiers())) {
                CHECK.yes("no private " + method.getName(), !names.contains(method.getName()));
            }
        }
    }

    /** LANGUAGE.md, rule 5: nothing is held outside of objects. */
    private static void staticFieldsAreFinal() {
        List<Class<?>> classes = new ArrayList<>(List.of(CookieListener.class.getDeclaredClasses()));
        classes.add(CookieListener.class);
        for (Class<?> one : classes) {
            for (Field field : one.getDeclaredFields()) {
                int modifiers = field.getModifiers();
                if (Modifier.isStatic(modifiers) && !field.isSynthetic()) {
                    CHECK.yes("final " + field, Modifier.isFinal(modifiers));
                }
            }
        }
    }
}
