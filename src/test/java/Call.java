/** One call of the face, told as a text: its name and its arguments ("paper 0 1 8 10", "watch MAX"). */
record Call(String name, int[] with) {
    static Call of(String text) {
        String[] parts = text.trim().split(" +");
        int[] with = new int[parts.length - 1];
        for (int i = 0; i < with.length; i++) {
            with[i] = number(parts[i + 1]);
        }
        return new Call(parts[0], with);
    }

    private static int number(String text) {
        return text.equals("MIN") ? Integer.MIN_VALUE : text.equals("MAX") ? Integer.MAX_VALUE : Integer.parseInt(text);
    }

    private static long bit(boolean yes) {
        return yes ? 1 : 0;
    }

    long on(MarksRegister r) {
        int[] a = with;
        return switch (name) {
            case "row" -> bit(r.row(a[0], a[1]));
            case "sound" -> bit(r.sound(a[0], a[1], a[2]));
            case "cost" -> bit(r.cost(a[0], a[1], a[2]));
            case "near" -> bit(r.near(a[0], a[1], a[2]));
            case "levels" -> bit(r.levels(a[0], a[1]));
            case "mark" -> r.mark(a[0], a[1]);
            case "letter" -> r.letter(a[0], a[1]);
            case "code" -> r.code(a[0], a[1]);
            case "paper" -> r.paper(a[0], a[1], a[2], a[3]);
            case "oppose" -> r.oppose(a[0], a[1], a[2]);
            case "undo" -> r.undo();
            case "paperOf" -> r.paperOf(a[0], a[1]);
            case "markOf" -> r.markOf(a[0], a[1]);
            case "soundOf" -> r.soundOf(a[0], a[1]);
            case "like" -> r.like(a[0], a[1], a[2]);
            case "right" -> r.right(a[0], a[1], a[2], a[3], a[4]);
            case "state" -> r.state(a[0], a[1], a[2]);
            case "clash" -> r.clash(a[0], a[1], a[2], a[3]);
            case "first" -> r.first(a[0], a[1], a[2]);
            case "may" -> r.may(a[0], a[1], a[2], a[3], a[4]);
            case "watch" -> r.watch(a[0]);
            case "about" -> r.about(a[0]);
            default -> throw new IllegalArgumentException("no such call: " + name);
        };
    }

    /** What the call answers where it is refused: false, or NONE. */
    long refusal() {
        return switch (name) {
            case "row", "sound", "cost", "near", "levels" -> 0;
            default -> -1;
        };
    }

    boolean is(String other, int kind) {
        return name.equals(other) && with[0] == kind;
    }

    @Override
    public String toString() {
        StringBuilder b = new StringBuilder(name);
        for (int n : with) {
            b.append(' ').append(n);
        }
        return b.toString();
    }
}
