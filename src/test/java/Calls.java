import java.lang.reflect.InvocationTargetException;
import java.lang.reflect.Method;
import java.util.HashMap;
import java.util.Map;

/** The calls of the face by their names, each with the kinds of its arguments. */
final class Calls {
    /** What is asked alone, and so changes nothing. */
    static final String[] ASKED = {"sense sense part", "word text free", "rule land rule word",
        "means land day word", "says land day meaning", "round land", "when land word meaning day",
        "often land word meaning", "may land meaning", "mute land", "muted land", "stays land day",
        "read land day text", "heard land day text", "silent land day text", "again land day text",
        "first land day text stock", "best land day thousand text", "worst land day thousand text",
        "sorts land text", "clear land text", "agree land text text", "days land text stock", "run land text",
        "average land text part", "lost land day text", "kinds land day text", "better land day text",
        "richest land day", "all land day", "turned land word turns", "cycle land word", "fixed land", "order land",
        "even land day", "otherwise land day land", "like land day land", "carry land day word land day",
        "carried land day text land day", "differ land land", "differs land land", "alike land land tenthousand",
        "torn slot land", "date slot land day", "ask slot land", "leaves slot land", "lands slotofbook day",
        "wording land day seven stock", "worded land day seven stock place", "wordings land day seven stock",
        "heirs land day", "takes land day", "greedy land day", "chance land day text nights part",
        "mean land day text nights part", "drawn seedofbook nights", "luck seed letters land day text"};

    /** What is done. */
    static final String[] DONE = {"swaps land word other", "stock told", "rate sense told", "image image",
        "back image", "row slot width sixty", "write slot free free", "paste slot free slot free free"};

    private static final Map<String, Method> FACE = new HashMap<>();

    static {
        for (Method m : MissingMeaning.class.getDeclaredMethods()) {
            FACE.put(m.getName(), m);
        }
    }

    private Calls() {
    }

    static long answer(MissingMeaning x, String name, int[] values) {
        Method m = FACE.get(name);
        Object[] arguments = new Object[values.length];
        for (int i = 0; i < values.length; i++) {
            if (m.getParameterTypes()[i] == long.class) {
                arguments[i] = (long) values[i];
            } else {
                arguments[i] = values[i];
            }
        }
        try {
            return ((Number) m.invoke(x, arguments)).longValue();
        } catch (IllegalAccessException | InvocationTargetException thrown) {
            throw new IllegalStateException(name, thrown);
        }
    }
}
