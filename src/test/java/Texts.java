/** Texts of plunges, written short: bathers are a, b, c .. in their order. */
final class Texts {
    private Texts() {
    }

    static String head(int warm, int chill, int ice, int visits) {
        return "plunge warm " + warm + " chill " + chill + " ice " + ice + " visits " + visits;
    }

    /**
     * Bathers as "p8 t4 h15" (plain, tender, hardy and what they bear), ties as "ab3 ac-5 cd?6" (know each other, foes,
     * unsure), what was felt as "8ad 10".
     */
    static String of(String head, String bathers, String ties, String felt) {
        StringBuilder text = new StringBuilder(head);
        char name = 'a';
        for (String one : words(bathers)) {
            text.append(";bather ").append(name).append(' ').append(kind(one.charAt(0))).append(" bears ").append(one.substring(1));
            name++;
        }
        for (String one : words(ties)) {
            char sign = one.charAt(2);
            boolean known = sign != '-' && sign != '?';
            text.append(known ? ";knows " : sign == '-' ? ";foes " : ";unsure ").append(one.charAt(0)).append(' ').append(one.charAt(1));
            text.append(" by ").append(one.substring(known ? 2 : 3));
        }
        for (String one : words(felt)) {
            int digits = 0;
            while (digits < one.length() && Character.isDigit(one.charAt(digits))) {
                digits++;
            }
            text.append(";felt ").append(one, 0, digits);
            for (int i = digits; i < one.length(); i++) {
                text.append(", ").append(one.charAt(i));
            }
        }
        return text.toString();
    }

    static String of(String head, String bathers, String ties) {
        return of(head, bathers, ties, "");
    }

    static String of(String head, String bathers) {
        return of(head, bathers, "", "");
    }

    private static String[] words(String list) {
        return list.isEmpty() ? new String[0] : list.split(" ");
    }

    private static String kind(char first) {
        return first == 't' ? "tender" : first == 'h' ? "hardy" : "plain";
    }
}
