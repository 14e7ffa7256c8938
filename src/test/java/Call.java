/** One call of a script: its name and its numbers. */
record Call(String name, int[] numbers) {
    static Call of(String name, int... numbers) {
        return new Call(name, numbers);
    }

    int on(Object house) {
        return Calls.ask(house, name, numbers);
    }

    String told() {
        return Calls.tell(name, numbers);
    }
}
