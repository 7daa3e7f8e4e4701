/** An object's state as a text, told by its answers: two objects are alike, if their texts are. */
final class State {
    /** What can be asked without a change. */
    static String of(PassInStep x) {
        StringBuilder all = new StringBuilder("about");
        for (int what = 0; what < 8; what++) {
            all.append(' ').append(x.about(what));
        }
        all.append(" fault ").append(x.fault());
        for (int walker = 0; walker < x.about(0); walker++) {
            all.append(" walker");
            for (int what = 0; what < 7; what++) {
                all.append(' ').append(x.walker(walker, what));
            }
            all.append(" line ").append(x.line(walker));
        }
        all.append(" whose ").append(x.whose(0)).append(' ').append(x.whose(1)).append(" ahead ").append(x.ahead(6));
        long seed = x.seed(0);
        x.seed(seed);
        return all.append(" seed ").append(seed).toString();
    }

    /** What acts change. */
    static String ofYard(PassInStep x) {
        StringBuilder all = new StringBuilder("yard");
        for (int what = 1; what < 5; what++) {
            all.append(' ').append(x.about(what));
        }
        for (int walker = 0; walker < x.about(0); walker++) {
            all.append(", ").append(x.walker(walker, 0)).append(' ').append(x.walker(walker, 3));
            all.append(' ').append(x.line(walker));
        }
        return all.toString();
    }

    /** What is there behind it too, acts, slots and the text's party: the object is used up by this. */
    static String whole(PassInStep x) {
        StringBuilder all = new StringBuilder(of(x));
        for (int acts = x.about(5); acts > 0; acts--) {
            all.append("\nundo ").append(x.undo()).append(' ').append(ofYard(x));
        }
        for (int slot = 0; slot < 2; slot++) {
            all.append("\nagain ").append(x.again(slot)).append(' ').append(ofYard(x));
        }
        return all.append("\nparty ").append(x.party()).append(' ').append(of(x)).toString();
    }
}
