/** A way to make an office: the same one each time, so that one can be asked what another one was not. */
interface Recipe {
    interface Deed {
        void on(RecordsOffice x);
    }

    RecordsOffice make();

    default Recipe then(Deed deed) {
        return () -> {
            RecordsOffice x = make();
            deed.on(x);
            return x;
        };
    }

    /** With the book filled until it has so many acts. */
    default Recipe withActs(int acts) {
        return then(x -> Offices.fillBook(x, acts));
    }
}
