/** Looks at each byte of a text anew, by all that stands ahead of it, to find its FAULT. */
final class Grammar {
    private Grammar() {
    }

    /** The place of the FAULT, or -1. */
    static int faultOf(String text) {
        for (int i = 0; i < text.length(); i++) {
            if (!goesOn(text.substring(0, i), text.charAt(i))) {
                return i;
            }
        }
        return text.isEmpty() || text.endsWith(";") ? -1 : text.length();
    }

    private static boolean goesOn(String ahead, char c) {
        int cut = ahead.lastIndexOf(';') + 1;
        String ended = ahead.substring(0, cut);
        String open = ahead.substring(cut);
        String told = "";
        String wanted = "";
        String written = "";
        int steps = 0;
        for (String statement : ended.split(";")) {
            if (statement.contains("=")) {
                told += statement.charAt(0);
            } else if (statement.contains("!")) {
                wanted += statement.charAt(0);
            } else if (statement.contains(">")) {
                written += statement.charAt(statement.indexOf('>') + 1);
                steps++;
            }
        }
        String next = open + c;
        if (open.isEmpty()) {
            return next.matches("[a-l]") && !wanted.contains(next)
                || next.matches("[0-5]") && steps < 10;
        }
        if (Character.isLetter(open.charAt(0))) {
            boolean isTold = told.indexOf(open.charAt(0)) >= 0;
            String term = "[0-9][0-9]?[A-D]?";
            return isTold ? next.matches("[a-l]!;?")
                : next.matches("[a-l]=(" + term + "\\+){0,3}(" + term + "(;|\\+)?)?");
        }
        return step(next, c, told, written);
    }

    private static boolean step(String next, char c, String told, String written) {
        int to = next.indexOf('>');
        String reads = to < 0 ? next.substring(1) : next.substring(1, to);
        if (c >= 'a' && c <= 'l' && told.indexOf(c) < 0) {
            return false;
        }
        if (to < 0) {
            return reads.matches("[a-l]{0,4}") && reads.chars().distinct().count() == reads.length();
        }
        String behind = next.substring(to + 1);
        if (behind.length() == 1) {
            return behind.matches("[a-l]") && !written.contains(behind) && !reads.contains(behind);
        }
        return behind.matches("([a-l][0-9]{1,2};?)?");
    }
}
