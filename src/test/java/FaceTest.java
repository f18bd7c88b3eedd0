import java.lang.reflect.Constructor;
import java.lang.reflect.Member;
import java.lang.reflect.Method;
import java.lang.reflect.Modifier;
import java.util.ArrayList;
import java.util.Arrays;
import java.util.List;

/** The public face of the document, method by method, and nothing beside it. */
public final class FaceTest {
    private static final String NO_SUCH = " throws IndexOutOfBoundsException";
    private static final String PAIR = "(int,int)" + NO_SUCH + ",IllegalArgumentException";
    private static final String[] FACE = {
        "int addStranger(int,int,int,int) throws IllegalArgumentException,IllegalStateException",
        "int setWalk" + PAIR,
        "int move" + PAIR + ",IllegalStateException",
        "int swapUmbrellas" + PAIR + ",IllegalStateException",
        "int swapTickets" + PAIR + ",IllegalStateException",
        "int draw" + PAIR + ",IllegalStateException",
        "int pass(int) throws IllegalArgumentException",
        "int strangers()", "int hour()", "int store()", "int counted()", "int spent()",
        "int ticketOf(int)" + NO_SUCH, "int colourOf(int)" + NO_SUCH,
        "int cornerOf(int)" + NO_SUCH, "int walkOf(int)" + NO_SUCH,
        "int peopleAt(int)" + NO_SUCH,
        "int pointsOf" + PAIR,
        "boolean areTogether" + PAIR, "boolean areMirrored" + PAIR,
        "int coincidences()", "int coincidencesAt(int)" + NO_SUCH, "int luckOf(int)" + NO_SUCH,
        "int luckiestPair()",
        "int coincidencesIn(int) throws IllegalArgumentException",
        "int hoursUntilTogether" + PAIR, "int costOfMeeting" + PAIR,
        "int bestHour()", "int bestCorner(int)" + NO_SUCH, "int bestSwap()", "int bestTicket(int)" + NO_SUCH,
        "double meanLuck()", "long digest()",
    };

    public static void main(String[] args) {
        Class<?> face = TicketCoincidences.class;
        Check.due("class", Modifier.toString(face.getModifiers()), "public final");
        Constructor<?>[] made = face.getDeclaredConstructors();
        Check.due("constructors", made.length, 1);
        Check.due("constructor", made[0].toString(), "public TicketCoincidences()");
        List<String> found = new ArrayList<>();
        for (Method m : face.getDeclaredMethods()) {
            if (!isPrivate(m)) {
                found.add(told(m));
            }
        }
        for (Member field : face.getDeclaredFields()) {
            Check.due("private " + field.getName(), isPrivate(field), true);
        }
        String[] due = FACE.clone();
        Arrays.sort(due);
        found.sort(null);
        Check.due("methods", found, Arrays.asList(due));
        Check.end();
    }

    private static boolean isPrivate(Member member) {
        return Modifier.isPrivate(member.getModifiers());
    }

    private static String told(Method m) {
        String text = m.toGenericString();
        String start = Modifier.isFinal(m.getModifiers()) ? "public final " : "public ";
        Check.due(text, text.startsWith(start), true);
        return text.substring(start.length()).replace("TicketCoincidences.", "").replace("java.lang.", "");
    }
}
