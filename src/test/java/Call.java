import java.lang.reflect.InvocationTargetException;
import java.lang.reflect.Method;

/** A call of the face as it is written: "put(0, 0, 0, 60, 2, 0)". MIN, MAX and NONE stand for their numbers. */
record Call(String text, Method method, Object[] arguments) {
    static Call of(String text) {
        int open = text.indexOf('(');
        String inside = text.substring(open + 1, text.length() - 1);
        String[] words = inside.isEmpty() ? new String[0] : inside.split(", ");
        Method method = methodOf(text.substring(0, open));
        Class<?>[] types = method.getParameterTypes();
        if (types.length != words.length) {
            throw new IllegalArgumentException(text);
        }
        Object[] arguments = new Object[words.length];
        for (int i = 0; i < words.length; i++) {
            arguments[i] = types[i] == boolean.class ? (Object) truthOf(words[i]) : (Object) numberOf(words[i]);
        }
        return new Call(text, method, arguments);
    }

    /** The calls that come of one when each word in turn stands for its "?". */
    static String[] each(String text, String words) {
        String[] calls = words.split(" ");
        for (int i = 0; i < calls.length; i++) {
            calls[i] = text.replace("?", calls[i]);
        }
        return calls;
    }

    long on(StaveScore score) {
        try {
            return ((Number) method.invoke(score, arguments)).longValue();
        } catch (InvocationTargetException | IllegalAccessException e) {
            throw new IllegalStateException(text + " threw", e);
        }
    }

    String name() {
        return method.getName();
    }

    private static Method methodOf(String name) {
        for (Method method : StaveScore.class.getMethods()) {
            if (method.getName().equals(name) && method.getDeclaringClass() == StaveScore.class) {
                return method;
            }
        }
        throw new IllegalArgumentException(name);
    }

    private static boolean truthOf(String word) {
        if (!word.equals("true") && !word.equals("false")) {
            throw new IllegalArgumentException(word);
        }
        return word.equals("true");
    }

    private static int numberOf(String word) {
        switch (word) {
            case "MIN": return Integer.MIN_VALUE;
            case "MAX": return Integer.MAX_VALUE;
            case "NONE": return StaveScore.NONE;
            default: return Integer.parseInt(word);
        }
    }
}
