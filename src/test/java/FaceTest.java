import java.lang.reflect.Constructor;
import java.lang.reflect.Field;
import java.lang.reflect.Member;
import java.lang.reflect.Method;
import java.lang.reflect.Modifier;
import java.util.Set;
import java.util.TreeSet;

/** The public face is that of the document, no more and no less. */
public final class FaceTest {
    private static final String FACE = "int person(int) ; boolean kind(int,int) ; int feed(int,int,int,int,int) ; int end(int) ; "
            + "int text() ; int fault(int) ; boolean by(int) ; boolean good(int,int) ; boolean thank(int) ; int settle() ; "
            + "int night(int) ; int played(int) ; int years(int,int) ; int undo() ; int of(int,int) ; int ofPerson(int) ; "
            + "int is(int) ; int book(int,int) ; int foretold(int,int,int) ; int rest(int,int) ; int wave(int) ; "
            + "int greatest(boolean) ; int reached(int) ; int waves(int,int) ; int until(int,int) ; int mover(boolean) ; "
            + "boolean again() ; int period(int,boolean) ; int least(int,boolean) ; int meet(int,int,int) ; int doers(boolean) ; "
            + "int likely(int,int,boolean) ; int off(int,boolean) ; boolean need(int,int) ; int cart(int) ; int round(int,int) ; "
            + "int sick() ; int beside(int) ; int alone() ; int spread() ; int crowded() ; int empty() ; int said(int,int) ; "
            + "int whose() ; int ready() ; int balance() ; int middle() ; int kindest() ; int travelled() ; int ledger(int) ; "
            + "int image() ; int back() ; int about(int)";

    public static void main(String[] args) throws Exception {
        Set<String> wanted = new TreeSet<>();
        for (String one : FACE.split(" ; ")) {
            wanted.add(one.trim());
        }
        Set<String> found = new TreeSet<>();
        boolean fine = wanted.size() == 53;
        for (Method method : ThankedMoves.class.getDeclaredMethods()) {
            String parameters = "";
            for (Class<?> type : method.getParameterTypes()) {
                parameters += (parameters.isEmpty() ? "" : ",") + type.getSimpleName();
            }
            if (Modifier.isPublic(method.getModifiers())) {
                found.add(method.getReturnType().getSimpleName() + " " + method.getName() + "(" + parameters + ")");
            }
            fine &= isOpenOrPrivate(method);
        }
        fine &= wanted.equals(found);
        for (Field field : ThankedMoves.class.getDeclaredFields()) {
            fine &= isOpenOrPrivate(field);
            fine &= !Modifier.isPublic(field.getModifiers()) || field.getName().equals("NONE");
        }
        Constructor<?>[] constructors = ThankedMoves.class.getConstructors();
        fine &= constructors.length == 1 && constructors[0].getParameterCount() == 0;
        fine &= Modifier.isFinal(ThankedMoves.class.getModifiers()) && ThankedMoves.NONE == -1;
        System.out.println(fine ? "the face is as due" : "the face is not as due: " + found);
        System.exit(fine ? 0 : 1);
    }

    private static boolean isOpenOrPrivate(Member member) {
        int modifiers = member.getModifiers();
        boolean fine = Modifier.isPublic(modifiers) || Modifier.isPrivate(modifiers) || member.isSynthetic();
        if (!fine) {
            System.out.println("neither public nor private: " + member);
        }
        return fine;
    }
}
