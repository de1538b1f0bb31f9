import java.lang.reflect.Constructor;
import java.lang.reflect.Field;
import java.lang.reflect.Method;
import java.lang.reflect.Modifier;
import java.util.Arrays;
import java.util.TreeSet;

/** The public face of the document and nothing beyond it, and what LANGUAGE.md rule 1 says of members. */
public final class FaceTest {
    private static final String FACE = "feed(int,int,int,int,int):int end(int):boolean valley():int fault():int "
            + "hand(int,int):int wants(int,int):int question(int,int):int grants(int,int):int way(int,int):int now(int):int "
            + "buy(int,int):int strike(int):int work(int):int sway(int,int,int):int put(int):int lay(int,int):int "
            + "weather(int):int days(int):int undo():int noise(int,int):int would(int):int win(int):int won():int "
            + "winStreets(int):int wonStreets():int sanded(int):int bought(int):int buys(int):int agenda():int "
            + "agendaAt(int):int power(int):int heard():int surely():int ask():int crier(int):int byteAt(int):int "
            + "drawn(int,int):int odds(int,int,int):int book(int):int told(int):int sentence():int said(int):int "
            + "image(int):boolean restore(int):boolean count(int):int";

    public static void main(String[] args) {
        TreeSet<String> due = new TreeSet<>(Arrays.asList(FACE.split(" ")));
        TreeSet<String> got = new TreeSet<>();
        TreeSet<String> names = new TreeSet<>();
        for (Method method : ClogVotes.class.getDeclaredMethods()) {
            if (Modifier.isPublic(method.getModifiers())) {
                got.add(told(method));
                names.add(method.getName());
            }
        }
        Check.sameText("the public methods", got.toString(), due.toString());
        for (Method method : ClogVotes.class.getDeclaredMethods()) {
            if (!Modifier.isPublic(method.getModifiers())) {
                Check.yes(method + " is private", Modifier.isPrivate(method.getModifiers()));
                Check.no(method + " bears a public name", names.contains(method.getName()));
            }
        }
        for (Field field : ClogVotes.class.getDeclaredFields()) {
            boolean told = field.getName().equals("NONE");
            Check.yes(field + " is private or NONE", told || Modifier.isPrivate(field.getModifiers()));
        }
        for (Class<?> inside : ClogVotes.class.getDeclaredClasses()) {
            Check.yes(inside + " is static", Modifier.isStatic(inside.getModifiers()));
            Check.no(inside + " is public", Modifier.isPublic(inside.getModifiers()));
            for (Method method : inside.getDeclaredMethods()) {
                Check.no(method + " bears a public name", names.contains(method.getName()));
            }
        }
        Constructor<?>[] made = ClogVotes.class.getDeclaredConstructors();
        Check.same("constructors", made.length, 1);
        Check.same("arguments of the constructor", made[0].getParameterCount(), 0);
        Check.yes("the constructor is public", Modifier.isPublic(made[0].getModifiers()));
        Check.yes("the class is public", Modifier.isPublic(ClogVotes.class.getModifiers()));
        Check.yes("the class is final", Modifier.isFinal(ClogVotes.class.getModifiers()));
        Check.same("NONE", ClogVotes.NONE, -1);
        Check.finish("FaceTest");
    }

    private static String told(Method method) {
        StringBuilder told = new StringBuilder(method.getName()).append('(');
        for (Class<?> argument : method.getParameterTypes()) {
            told.append(told.charAt(told.length() - 1) == '(' ? "" : ",").append(argument.getName());
        }
        return told.append("):").append(method.getReturnType().getName()).toString();
    }
}
