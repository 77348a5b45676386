/** Makes a call that is written as text, and writes its answer as text. */
final class Calls {
    private Calls() {
    }

    static String answer(PictureDeck deck, String call) {
        try {
            return answerOrThrow(deck, call.split(" "));
        } catch (IllegalArgumentException e) {
            return "throws argument";
        } catch (IllegalStateException e) {
            return "throws state";
        } catch (IndexOutOfBoundsException e) {
            return e.getClass() == IndexOutOfBoundsException.class ? "throws index" : "throws " + e;
        } catch (RuntimeException e) {
            return "throws " + e;
        }
    }

    private static String answerOrThrow(PictureDeck deck, String[] w) {
        switch (w[0]) {
            case "size": deck.size(n(w, 1), n(w, 2)); return "";
            case "matrix": return "" + deck.matrix(n(w, 1), n(w, 2), n(w, 3));
            case "begin": deck.begin(n(w, 1), n(w, 2), n(w, 3), w[4].equals("true")); return "";
            case "scale": deck.scale(n(w, 1)); return "";
            case "itself": deck.itself(); return "";
            case "vector": deck.vector(n(w, 1), n(w, 2), n(w, 3)); return "";
            case "level": deck.level(n(w, 1), n(w, 2), n(w, 3)); return "";
            case "square": return "" + deck.square();
            case "leave": return "" + deck.leave(n(w, 1));
            case "done": return "" + deck.done();
            case "last": return "" + deck.last();
            case "sample": return "" + deck.sample(n(w, 1), n(w, 2), n(w, 3));
            case "colour": return "" + deck.colour(n(w, 1), n(w, 2));
            case "light": deck.light(Float.parseFloat(w[1]), Float.parseFloat(w[2])); return "";
            case "keep": deck.keep(); return "";
            case "error": return "" + (double) deck.error();
            case "told": return "" + deck.told(n(w, 1));
            default: throw new Error("no such call: " + w[0]);
        }
    }

    static int n(String[] words, int i) {
        return Integer.parseInt(words[i]);
    }
}
