import java.util.List;
import java.util.regex.Matcher;
import java.util.regex.Pattern;

/** Tokens of a tape for PlainModel, by a pattern; a token is looked at only when it is asked for. */
final class PlainReader {
    private static final Pattern TOKEN = Pattern.compile("([a-z]+)|([0-9]+)|;");

    static final class Fault extends RuntimeException {
        private static final long serialVersionUID = 1;

        final int fault;
        final int place;

        Fault(int fault, int place) {
            super(null, null, false, false);
            this.fault = fault;
            this.place = place;
        }
    }

    private final String tape;
    private int at = 0;
    private int latest = 0;

    PlainReader(String tape) {
        this.tape = tape;
    }

    /** The token that comes, "" at the end; it is not yet taken. */
    private String peek() {
        while (at < tape.length() && tape.charAt(at) == ' ') {
            at++;
        }
        if (at == tape.length()) {
            return "";
        }
        Matcher m = TOKEN.matcher(tape).region(at, tape.length());
        if (!m.lookingAt() || m.group(2) != null && m.group().length() > 3) {
            throw new Fault(1, at);
        }
        return m.group();
    }

    private void take(String token) {
        latest = at;
        at += token.length();
    }

    boolean atEnd() {
        return peek().isEmpty();
    }

    /** A fault of the token that was taken latest. */
    void fault(boolean really, int fault) {
        if (really) {
            throw new Fault(fault, latest);
        }
    }

    String name(String... may) {
        String token = peek();
        if (!List.of(may).contains(token)) {
            throw new Fault(2, at);
        }
        take(token);
        return token;
    }

    boolean maybe(String name) {
        boolean there = peek().equals(name);
        if (there) {
            take(name);
        }
        return there;
    }

    int number(int low, int high) {
        String token = peek();
        if (token.isEmpty() || !Character.isDigit(token.charAt(0))) {
            throw new Fault(2, at);
        }
        take(token);
        int n = Integer.parseInt(token);
        fault(n < low || n > high, 3);
        return n;
    }

    void stop() {
        name(";");
    }
}
