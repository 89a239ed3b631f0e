import java.lang.reflect.InvocationTargetException;
import java.lang.reflect.Method;

/** Calls told as texts: "set 0 99"; MIN and MAX stand for the least and the greatest int. */
final class Call {
    private Call() {
    }

    static long on(FoxRounds x, String call) {
        String[] words = call.split(" ");
        for (Method act : FoxRounds.class.getMethods()) {
            if (act.getName().equals(words[0]) && act.getParameterCount() == words.length - 1) {
                return answer(x, act, words);
            }
        }
        throw new IllegalArgumentException("no such call: " + call);
    }

    private static long answer(FoxRounds x, Method act, String[] words) {
        Class<?>[] types = act.getParameterTypes();
        Object[] arguments = new Object[types.length];
        for (int i = 0; i < types.length; i++) {
            long v = number(words[i + 1]);
            if (types[i] == long.class) {
                arguments[i] = v;
            } else {
                arguments[i] = Math.toIntExact(v);
            }
        }
        try {
            return ((Number) act.invoke(x, arguments)).longValue();
        } catch (InvocationTargetException e) {
            throw new IllegalStateException(String.join(" ", words) + " threw", e.getCause());
        } catch (IllegalAccessException e) {
            throw new IllegalStateException(e);
        }
    }

    private static long number(String word) {
        return word.equals("MIN") ? Integer.MIN_VALUE : word.equals("MAX") ? Integer.MAX_VALUE : Long.parseLong(word);
    }
}
