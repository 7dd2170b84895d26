import java.io.IOException;
import java.io.UncheckedIOException;
import java.lang.reflect.Method;
import java.nio.file.Files;
import java.nio.file.Path;
import java.util.regex.Matcher;
import java.util.regex.Pattern;

/** README.md: each call of its example answers what stands behind it. */
public final class ReadmeTest {
    private static final Pattern CALL = Pattern.compile("voice\\.(\\w+)\\((.*?)\\); +// (-?\\d+) .*");

    public static void main(String[] args) {
        Check.test("readme: the example's answers", ReadmeTest::example);
        Check.end();
    }

    private static void example() {
        VoiceFrames voice = new VoiceFrames();
        int calls = 0;
        for (String line : readme().split("\n")) {
            Matcher call = CALL.matcher(line);
            if (call.matches()) {
                Check.due(line, answer(voice, call.group(1), call.group(2)), Integer.parseInt(call.group(3)));
                calls++;
            }
        }
        Check.due("calls in the example", calls, 12);
    }

    private static String readme() {
        try {
            return Files.readString(Path.of("README.md"));
        } catch (IOException e) {
            throw new UncheckedIOException(e);
        }
    }

    private static int answer(VoiceFrames voice, String name, String written) {
        for (Method method : VoiceFrames.class.getMethods()) {
            if (method.getName().equals(name)) {
                return answer(voice, method, written.isEmpty() ? new String[0] : written.split(", "));
            }
        }
        throw new IllegalStateException("there is no call " + name);
    }

    private static int answer(VoiceFrames voice, Method method, String[] written) {
        Class<?>[] types = method.getParameterTypes();
        Object[] numbers = new Object[written.length];
        for (int i = 0; i < written.length; i++) {
            long number = Long.decode(written[i]);
            if (types[i] == long.class) {
                numbers[i] = number;
            } else {
                numbers[i] = (int) number;
            }
        }
        try {
            return (Integer) method.invoke(voice, numbers);
        } catch (ReflectiveOperationException e) {
            throw new IllegalStateException(e);
        }
    }
}
